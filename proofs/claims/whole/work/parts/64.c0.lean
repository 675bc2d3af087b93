
/-! ## the class's world: its cells, its static rows (86 .. 91), its texts (92, 93; their bytes 94, 95) -/
def stTab : List (String × List Int) := [("MOST_CLAUSES", [1, 6, 5]), ("FIRST_ROW", [0, 1, 7]), ("LETTERS", [99, 107, 118, 109, 99, 107, 118, 115, 119, 110, 103, 0]), ("LEAST", [0, 0, 0, 0, 0, 0, 0, 0, 0, 0, 1, 0]), ("MOST", [9, 9, 9, 99, 9, 9, 9, 20, 2, 9, 9, 0]), ("USUAL", [3, 3, 2, 20, 4, 4, 2, 0, 0, 5, 3, 0])]
def stN (i : Nat) : String := (stTab.getD i ("", [])).1
def stV (i j : Nat) : Int := (stTab.getD i ("", [])).2.getD j 0
def stL (i : Nat) : Nat := (stTab.getD i ("", [])).2.length
def txTab : List (List Int) := [[115, 112, 116], [99, 107, 118, 109, 104, 121]]
def txV (i j : Nat) : Int := (txTab.getD i []).getD j 0
def txL (i : Nat) : Nat := (txTab.getD i []).length
def XC (q : Nat → Nat) (A : Nat → Prop) (U : State) : Prop :=
  (∀ i, i < 6 → va_Z RX10 (stN i) "[I" (.ref (q (86 + i))) A U U.heap ∧ va_T .int (q (86 + i)) (stL i) (fun j => .int (iI (stV i j))) A U U.heap) ∧
  (vk_R RX10 63 "spt" (q 92) U ∧ vk_R RX5 73 "ckvmhy" (q 93) U) ∧
  (∀ i, i < 2 → va_O RJ0 (q (92 + i)) A U U.heap ∧ va_OF RJ0 "coder" "B" (.int 0) (q (92 + i)) A U U.heap ∧ va_OF RJ0 "value" "[B" (.ref (q (94 + i))) (q (92 + i)) A U U.heap ∧ va_T .byte (q (94 + i)) (txL i) (fun j => .int (iI (txV i j))) A U U.heap) ∧
  va_Z RJ0 "COMPACT_STRINGS" "Z" (.int 1) A U U.heap
def PC : LPk := (layC, 86, XC)
theorem XCo : XOk PC := by
  intro q A u U hvm hk h
  obtain ⟨h1, h2, h3, h4⟩ := h
  have hal : u.vm.Alike U.vm := by
    rcases hvm with e | w
    · rw [e]; exact Vm.Alike.refl _
    · exact w.alike
  have hR : ∀ own k tx a, vk_R own k tx a u → vk_R own k tx a U := fun own k tx a h => by
    rcases hvm with e | w
    · exact vk_R.same e.symm h
    · exact vk_R.warm w h
  exact ⟨fun i hi => ⟨(va_Z.moved hal (h1 i hi).1).kept hk, (va_T.moved hal (h1 i hi).2).kept hk⟩, ⟨hR _ _ _ _ h2.1, hR _ _ _ _ h2.2⟩, fun i hi => ⟨(va_O.moved hal (h3 i hi).1).kept hk, (va_OF.moved hal (h3 i hi).2.1).kept hk, (va_OF.moved hal (h3 i hi).2.2.1).kept hk, (va_T.moved hal (h3 i hi).2.2.2).kept hk⟩, (va_Z.moved hal h4).kept hk⟩
section
variable {Q : Option AV → Mm → Prop} {K : KT} {cc : ByteArray} {own : String} {nL d : Nat} {ret : Option FieldType} {pc n : Nat} {ls : List (Option AV)} {st : List AV} {μ : Mm}
theorem aw_XC (hO : KOk PC Q K cc own nL d ret) : XC K.q (fun a => K.b ≤ a) K.s ∧ ∀ a, K.A a → K.b ≤ a := by
  have h := hO.2.2.2.1
  have eP := hO.2.2.2.2.2.2.1
  refine ⟨?_, hO.2.2.2.2.2.1⟩
  rw [eP] at h
  exact h
theorem aw_gst {i ix : Nat} (hO : KOk PC Q K cc own nL d ret) (hd : decode cc pc = .ok (.getstatic ix, 3)) (hn : pc + 3 = n) (hi : i < 6) (hw : Cond.fieldLink own ix RX10 (stN i) "[I" ∈ lw_g) (kk : AW K n ls (vR (86 + i) :: st) μ) : AW K pc ls st μ := by
  subst hn
  intro H locs Ls hP hS hl
  obtain ⟨hX, hA⟩ := aw_XC hO
  exact va_gets hO.1.1 hO.1.2.1 ((hX.1 i hi).1.narrow hA) hS hO.1.2.2.2.1 (hO.1.2.2.2.2 _ hw) (fun _ h => h) hd (kk H locs Ls hP hS hl)
theorem aw_tld {i j : Nat} {a : Int} (hO : KOk PC Q K cc own nL d ret) (hd : decode cc pc = .ok (.iaload, 1)) (hn : pc + 1 = n) (hi : i < 6) (ha : a = (j : Int)) (hj : j < stL i) (hN : stL i < 2147483648) (kk : AW K n ls (vI (stV i j) :: st) μ) : AW K pc ls (vI a :: vR (86 + i) :: st) μ := by
  subst hn
  subst ha
  intro H locs Ls hP hS hl
  obtain ⟨hX, hA⟩ := aw_XC hO
  exact va_ti hO.1.1 hO.1.2.1 ((hX.1 i hi).2.narrow hA) hS (iI_in (by omega) (by omega) hN) (v := .int (iI (stV i j))) (by rw [iI_nc (by omega) (by omega)]; rfl) hd (kk H locs Ls hP hS hl)
end
section
variable {P : LPk} {Q : Option AV → Mm → Prop} {K : KT} {cc : ByteArray} {own : String} {nL d : Nat} {ret : Option FieldType} {pc n : Nat} {ls : List (Option AV)} {st : List AV} {μ : Mm}
theorem aw_cald {k N : Nat} {a : Int} {i : Nat} (hO : KOk P Q K cc own nL d ret) (hd : decode cc pc = .ok (.caload, 1)) (hn : pc + 1 = n) (hk : k < P.2.1) (hL : P.1 k = .inl (.char, N)) (hN : N < 2147483648) (hi : a = (i : Int)) (h2 : i < N) (kk : AW K n ls (vI (μ.1 k i) :: st) μ) : AW K pc ls (vI a :: vR k :: st) μ := by
  subst hn
  subst hi
  have eP := hO.2.2.2.2.2.2.1
  subst eP
  intro H locs Ls hP hS hl
  have he := wld_get (P := K.P) (q := K.q) (ca := K.ca) (μ := μ) hk
  rw [cellE_arr hL] at he
  have ht := wty_get (P := K.P) (ca := K.ca) hk
  rw [hL] at ht
  refine va_cald hO.1.1 hO.1.2.1 hO.2.1.1 hP k k he ht (iI_in (by omega) (by omega) hN) hd ?_
  rw [iI_nc (by omega) (by omega)]
  exact kk H locs Ls hP hS hl
theorem c_nar : ∀ v : Fin 256, vp_nar .char (iI ((v.val : Nat) : Int)) = iI ((v.val : Nat) : Int) := by decide +kernel
theorem aw_cast {k N : Nat} {a v : Int} {i : Nat} (hO : KOk P Q K cc own nL d ret) (hd : decode cc pc = .ok (.castore, 1)) (hn : pc + 1 = n) (hk : k < P.2.1) (hL : P.1 k = .inl (.char, N)) (hN : N < 2147483648) (hi : a = (i : Int)) (h2 : i < N) (hv1 : 0 ≤ v) (hv2 : v < 256) (kk : AW K n ls st (mst μ k i v)) : AW K pc ls (vI v :: vI a :: vR k :: st) μ := by
  subst hn
  subst hi
  have eP := hO.2.2.2.2.2.2.1
  subst eP
  intro H locs Ls hP hS hl
  have he := wld_get (P := K.P) (q := K.q) (ca := K.ca) (μ := μ) hk
  rw [cellE_arr hL] at he
  have ht := wty_get (P := K.P) (ca := K.ca) hk
  rw [hL] at ht
  refine va_cast hO.1.1 hO.1.2.1 hO.2.1.1 hP (hO.2.1.2.1 μ) hS k k he ht (iI_in (by omega) (by omega) hN) hd (fun H1 locs1 hP1 _ hS1 => ?_)
  have ev : vp_nar .char (iI v) = iI v := by
    have := c_nar ⟨v.toNat, by omega⟩
    simp only at this
    rwa [Int.toNat_of_nonneg hv1] at this
  rw [ev, iI_nc (by omega) (by omega), set_arr hL] at hP1
  exact kk H1 locs1 Ls hP1 hS1 hl
/-- a stretch copied from one cell of whole numbers into another -/
theorem set_cpy {q : Nat → Nat} {ca : Nat → ClassId} {k0 k1 n1 sp dp m : Nat} {ty : FieldType} (hL : P.1 k1 = .inl (ty, n1)) :
    (wld P q ca μ).set k1 (q k1, .inl (ca k1, n1, .inl (va_cpy (fun i => iI (μ.1 k0 i)) (fun i => iI (μ.1 k1 i)) sp dp m))) = wld P q ca (mcp μ k1 k0 dp sp m) := by
  refine wld_set ?_ (fun j _ hj => ?_)
  · rw [cellE_arr hL]
    congr 5
    funext j
    unfold va_cpy mcp
    dsimp only
    by_cases e : dp ≤ j ∧ j < dp + m
    · rw [if_pos e, if_pos ⟨rfl, e⟩]
    · rw [if_neg e, if_neg (fun z => e z.2)]
  · unfold cellE
    split
    · simp only [mcp, if_neg (show ¬ (j = k1 ∧ _) from fun z => hj z.1)]
    · rfl
    · simp only [Sum.inr.injEq, Prod.mk.injEq, true_and]
      apply List.map_congr_left
      intro a _
      unfold fv mcp
      split <;> simp [hj]
theorem aw_cpy {k0 k1 n0 n1 ix : Nat} {ty : FieldType} {a b c : Int} {sp dp m : Nat} (hO : KOk P Q K cc own nL d ret) (hd : decode cc pc = .ok (.invokestatic ix, 3)) (hn : pc + 3 = n) (hw : Cond.methodLink own ix arraycopyName ∈ lw_g) (hw2 : Cond.native arraycopyName ∈ lw_g ∧ Cond.static arraycopyName ∈ lw_g ∧ Cond.initialized "java/lang/System" ∈ lw_g)
    (hk0 : k0 < P.2.1) (hL0 : P.1 k0 = .inl (ty, n0)) (hk1 : k1 < P.2.1) (hL1 : P.1 k1 = .inl (ty, n1)) (hty : ty = .int) (h0 : n0 < 2147483648) (h1 : n1 < 2147483648) (ha : a = (sp : Int)) (hb : b = (dp : Int)) (hc : c = (m : Int)) (hs : sp + m ≤ n0) (ht : dp + m ≤ n1) (hdd : 1 ≤ d) (hnl : ls.length = nL) (hst : (st.map fun v => (cv (fun _ => 0) v).category).sum ≤ 8)
    (kk : AW K n ls st (mcp μ k1 k0 dp sp m)) : AW K pc ls (vI c :: vI b :: vR k1 :: vI a :: vR k0 :: st) μ := by
  subst hn
  subst ha
  subst hb
  subst hc
  subst hty
  have eP := hO.2.2.2.2.2.2.1
  subst eP
  intro H locs Ls hP hS hl
  have hts := hO.1.2.2.2.2
  have h8 := st_sum (q := K.q) hst
  have hR := hO.2.1.2.2.2.1
  have he0 := wld_get (P := K.P) (q := K.q) (ca := K.ca) (μ := μ) hk0
  rw [cellE_arr hL0] at he0
  have ht0 := wty_get (P := K.P) (ca := K.ca) hk0
  rw [hL0] at ht0
  have he1 := wld_get (P := K.P) (q := K.q) (ca := K.ca) (μ := μ) hk1
  rw [cellE_arr hL1] at he1
  have ht1 := wty_get (P := K.P) (ca := K.ca) hk1
  rw [hL1] at ht1
  have z : ∀ x : Nat, x < 2147483648 → ¬ iI (x : Int) < 0 := fun x hx e => by
    have := (iI_lt (a := (x : Int)) (b := 0) ⟨by omega, by omega⟩ (inRlit _)).mp e
    omega
  have c0 : ∀ x : Nat, x < 2147483648 → (iI (x : Int)).toNatClampNeg = x := fun x hx => by rw [iI_nc (by omega) (by omega)]; rfl
  refine va_copyi hO.1.1 hO.1.2.1 (by rw [hO.1.2.2.1, hl.1, hnl]) hO.1.2.2.2.1 (hts _ hw) (hts _ hw2.1) (hts _ hw2.2.1) (hts _ hw2.2.2) hO.2.1.1 hP (hO.2.1.2.1 μ) hS k0 k1 k0 k1 he0 he1 ht0 ht1 rfl (z sp (by omega)) (z dp (by omega)) (z m (by omega)) (by rw [c0 sp (by omega), c0 m (by omega)]; exact hs) (by rw [c0 dp (by omega), c0 m (by omega)]; exact ht) (fun _ _ => rfl) (by rw [hR]; exact hdd) (by
    rw [hR]
    show _ ≤ 60 * d
    have : nativeFrameWords "java/lang/System" "arraycopy" 5 ≤ 40 := by decide +kernel
    omega) hd (fun H1 locs1 hP1 _ hS1 => ?_)
  rw [c0 sp (by omega), c0 dp (by omega), c0 m (by omega), set_cpy hL1] at hP1
  exact kk H1 locs1 Ls hP1 hS1 hl
/-- one of a row of cells -/
theorem aw_aald {k N i : Nat} {C : String} {t : Nat → Nat} {a : Int} (hO : KOk P Q K cc own nL d ret) (hd : decode cc pc = .ok (.aaload, 1)) (hn : pc + 1 = n) (hk : k < P.2.1) (hL : P.1 k = .inr (.inl (.object C, N, t))) (hN : N < 2147483648) (hi : a = (i : Int)) (h2 : i < N) (kk : AW K n ls (vR (t i) :: st) μ) : AW K pc ls (vI a :: vR k :: st) μ := by
  subst hn
  subst hi
  have eP := hO.2.2.2.2.2.2.1
  subst eP
  intro H locs Ls hP hS hl
  have he := wld_get (P := K.P) (q := K.q) (ca := K.ca) (μ := μ) hk
  rw [cellE_ref hL] at he
  have ht := wty_get (P := K.P) (ca := K.ca) hk
  rw [hL] at ht
  refine va_aldq hO.1.1 hO.1.2.1 hO.2.1.1 hP k k he ht (iI_in (by omega) (by omega) hN) hd ?_
  rw [iI_nc (by omega) (by omega)]
  exact kk H locs Ls hP hS hl
theorem aw_aaldT {k N i : Nat} {ty : FieldType} {t : Nat → Nat} {a : Int} (hO : KOk P Q K cc own nL d ret) (hd : decode cc pc = .ok (.aaload, 1)) (hn : pc + 1 = n) (hk : k < P.2.1) (hL : P.1 k = .inr (.inl (ty, N, t))) (hty : refKind ty = true) (hN : N < 2147483648) (hi : a = (i : Int)) (h2 : i < N) (kk : AW K n ls (vR (t i) :: st) μ) : AW K pc ls (vI a :: vR k :: st) μ := by
  subst hn
  subst hi
  have eP := hO.2.2.2.2.2.2.1
  subst eP
  intro H locs Ls hP hS hl
  have he := wld_get (P := K.P) (q := K.q) (ca := K.ca) (μ := μ) hk
  rw [cellE_ref hL] at he
  have ht := wty_get (P := K.P) (ca := K.ca) hk
  rw [hL] at ht
  have hin : vp_in (iI (i : Int)) N := iI_in (by omega) (by omega) hN
  have hc : (iI (i : Int)).toNatClampNeg = i := by rw [iI_nc (by omega) (by omega)]; rfl
  refine W.aald (v := .ref (K.q (t i))) (ty := ty) hO.1.1 hO.1.2.1 (hP k _ he) ((hO.2.1.1.2 k _ ht).1 N (fun j => va_rf (some (K.q (t j))))) hty (fun q => by cases q) (by show ¬ (_ < 0 ∨ (arrV _ _ _).slots.size ≤ _); rw [arrV_size]; exact hin) (by show (arrV _ _ _).slots[_]? = _; rw [hc, arrV_read _ _ h2]; rfl) rfl rfl hd ?_
  exact kk H locs Ls hP hS hl
/-- the law that holds, written -/
theorem fv_rul {q : Nat → Nat} {r : Option Nat} {k j c : Nat} (h : c ≠ 2) : fv q (mrul μ r) k j c = fv q μ k j c := by
  unfold fv mrul
  split
  · rfl
  · rfl
  · exact absurd rfl h
  · rfl
theorem set_rul {q : Nat → Nat} {ca : Nat → ClassId} {k f ci : Nat} {fs : List Nat} {r : Option Nat} (hL : P.1 k = .inr (.inr (ci, fs))) (hfs : fs[f]? = some 2) (h1 : ∀ j, j < fs.length → j ≠ f → fs.getD j 0 ≠ 2) (h2 : ∀ k' ci' fs', k' < P.2.1 → k' ≠ k → P.1 k' = .inr (.inr (ci', fs')) → ∀ j, j < fs'.length → fs'.getD j 0 ≠ 2) :
    (wld P q ca μ).set k (q k, .inr (ci, ((List.range fs.length).map (fun j => fv q μ k j (fs.getD j 0))).set f (va_rf (r.map q)))) = wld P q ca (mrul μ r) := by
  have hlt : f < fs.length := (List.getElem?_eq_some_iff.mp hfs).1
  have hg : fs.getD f 0 = 2 := by simp [List.getD, hfs]
  refine wld_set ?_ (fun j hj hjk => ?_)
  · rw [cellE_obj hL, set_fld (μ' := mrul μ r) hlt (by rw [hg]; rfl) (fun j hj hne => fv_rul (h1 j hj hne))]
  · unfold cellE
    split
    · rfl
    · rfl
    · rename_i ci' fs' hc
      simp only [Sum.inr.injEq, Prod.mk.injEq, true_and]
      apply List.map_congr_left
      intro i hi
      exact (fv_rul (h2 j ci' fs' hj hjk hc i (List.mem_range.mp hi))).symm
end
def noR (c : LC) : Bool := match c with
  | .inr (.inr (_, fs)) => fs.all (fun x => x != 2)
  | _ => true
def noL (c : LC) : Bool := match c with
  | .inr (.inr (_, fs)) => fs.all (fun x => x != 1)
  | _ => true
theorem layC_noR : ∀ k, k < 86 → k ≠ 73 → noR (layC k) = true := by decide
theorem layC_noL : ∀ k, k < 86 → k ≠ 76 → noL (layC k) = true := by decide
theorem noR_at {k ci : Nat} {fs : List Nat} (h : noR (layC k) = true) (e : layC k = .inr (.inr (ci, fs))) : ∀ j, j < fs.length → fs.getD j 0 ≠ 2 := by
  rw [e] at h
  intro j hj
  have := List.all_eq_true.mp (show fs.all (fun x => x != 2) = true from h) (fs.getD j 0) (by simp [List.getD, List.getElem?_eq_getElem hj])
  simpa using this
theorem noL_at {k ci : Nat} {fs : List Nat} (h : noL (layC k) = true) (e : layC k = .inr (.inr (ci, fs))) : ∀ j, j < fs.length → fs.getD j 0 ≠ 1 := by
  rw [e] at h
  intro j hj
  have := List.all_eq_true.mp (show fs.all (fun x => x != 1) = true from h) (fs.getD j 0) (by simp [List.getD, List.getElem?_eq_getElem hj])
  simpa using this
