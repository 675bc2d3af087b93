
/-! ## the class: the long and the law that holds, written; a stretch of a static row copied -/
section
variable {P : LPk} {Q : Option AV → Mm → Prop} {K : KT} {cc : ByteArray} {own : String} {nL d : Nat} {ret : Option FieldType} {pc n : Nat} {ls : List (Option AV)} {st : List AV} {μ : Mm}
theorem aw_putLN {k f ci N ix : Nat} {C host : String} {T : u_T} {ty0 : Nat → FieldType} {fs : List Nat} {a : Int} (hO : KOk P Q K cc own nL d ret) (hd : decode cc pc = .ok (.putfield ix, 3)) (hn : pc + 3 = n) (hC : ClsOk ci C T N) (hty : ∀ k, k < N → parseFieldDescriptor (T k).2.2.1 = some (ty0 k)) (hnm : ∀ a, a < N → ∀ b, b < N → a ≠ b → (T a).2.1 ≠ (T b).2.1) (hf : f < N) (hw : Cond.fieldLinkNest own ix (T f).1 (T f).2.1 (T f).2.2.1 host ∈ lw_n)
    (hfin : (T f).2.2.2 = false) (hnar : ty0 f = .long)
    (hk : k < P.2.1) (hL : P.1 k = .inr (.inr (ci, fs))) (hfs : fs[f]? = some 1) (h1 : ∀ j, j < fs.length → j ≠ f → fs.getD j 0 ≠ 1) (h2 : ∀ k' ci' fs', k' < P.2.1 → k' ≠ k → P.1 k' = .inr (.inr (ci', fs')) → ∀ j, j < fs'.length → fs'.getD j 0 ≠ 1) (kk : AW K n ls st (mlong μ a)) : AW K pc ls (vL a :: vR k :: st) μ := by
  subst hn
  have eP := hO.2.2.2.2.2.2.1
  subst eP
  intro H locs Ls hP hS hl
  have he := wld_get (P := K.P) (q := K.q) (ca := K.ca) (μ := μ) hk
  rw [cellE_obj hL] at he
  have hlt : f < fs.length := (List.getElem?_eq_some_iff.mp hfs).1
  refine va_putN hO.1.1 hO.1.2.1 hO.1.2.2.2.2 hC.2 ty0 hty hnm hO.1.2.2.2.1 hO.2.1.1 hP (hO.2.1.2.1 μ) hS k he hC.1 f hf (va_Nw.use rfl (hO.2.2.2.2.2.2.2.2 _ hw)) (fun _ h => h) hfin (v := .long (lI a)) (hty f hf) (by rw [hnar]; rfl) (by rw [hnar]; rfl) (by simpa using hlt) hd (fun H1 locs1 hP1 _ hS1 => ?_)
  rw [set_lng hL hfs h1 h2] at hP1
  exact kk H1 locs1 Ls hP1 hS1 hl
theorem cv_rf (q : Nat → Nat) (r : Option Nat) : cv q (.inr (.inr r)) = va_rf (r.map q) := by cases r <;> rfl
theorem aw_putRN {k f ci N ix : Nat} {C host E : String} {T : u_T} {ty0 : Nat → FieldType} {fs : List Nat} {r : Option Nat} (hO : KOk P Q K cc own nL d ret) (hd : decode cc pc = .ok (.putfield ix, 3)) (hn : pc + 3 = n) (hC : ClsOk ci C T N) (hty : ∀ k, k < N → parseFieldDescriptor (T k).2.2.1 = some (ty0 k)) (hnm : ∀ a, a < N → ∀ b, b < N → a ≠ b → (T a).2.1 ≠ (T b).2.1) (hf : f < N) (hw : Cond.fieldLinkNest own ix (T f).1 (T f).2.1 (T f).2.2.1 host ∈ lw_n)
    (hfin : (T f).2.2.2 = false) (hnar : ty0 f = .object E)
    (hk : k < P.2.1) (hL : P.1 k = .inr (.inr (ci, fs))) (hfs : fs[f]? = some 2) (h1 : ∀ j, j < fs.length → j ≠ f → fs.getD j 0 ≠ 2) (h2 : ∀ k' ci' fs', k' < P.2.1 → k' ≠ k → P.1 k' = .inr (.inr (ci', fs')) → ∀ j, j < fs'.length → fs'.getD j 0 ≠ 2) (kk : AW K n ls st (mrul μ r)) : AW K pc ls (.inr (.inr r) :: vR k :: st) μ := by
  subst hn
  have eP := hO.2.2.2.2.2.2.1
  subst eP
  intro H locs Ls hP hS hl
  have he := wld_get (P := K.P) (q := K.q) (ca := K.ca) (μ := μ) hk
  rw [cellE_obj hL] at he
  have hlt : f < fs.length := (List.getElem?_eq_some_iff.mp hfs).1
  show W _ _ _ _ _ _ _ _ _ _ _ _ _ _ _ (F0 K.m pc Ls (cv K.q (.inr (.inr r)) :: .ref (K.q k) :: st.map (cv K.q)))
  rw [cv_rf]
  refine va_putN hO.1.1 hO.1.2.1 hO.1.2.2.2.2 hC.2 ty0 hty hnm hO.1.2.2.2.1 hO.2.1.1 hP (hO.2.1.2.1 μ) hS k he hC.1 f hf (va_Nw.use rfl (hO.2.2.2.2.2.2.2.2 _ hw)) (fun _ h => h) hfin (v := va_rf (r.map K.q)) (hty f hf) (by rw [hnar]; cases r <;> rfl) (by rw [hnar]; cases r <;> rfl) (by simpa using hlt) hd (fun H1 locs1 hP1 _ hS1 => ?_)
  rw [set_rul hL hfs h1 h2] at hP1
  exact kk H1 locs1 Ls hP1 hS1 hl
end
section
variable {Q : Option AV → Mm → Prop} {K : KT} {cc : ByteArray} {nL d : Nat} {ret : Option FieldType} {pc n : Nat} {ls : List (Option AV)} {st : List AV} {μ : Mm}
set_option maxRecDepth 100000 in
theorem pC_drawn {a : Int} (hO : KOk PC Q K cc RX1 nL d ret) (hd : decode cc pc = .ok (.putfield 9, 3)) (hn : pc + 3 = n) (kk : AW K n ls st (mlong μ a)) : AW K pc ls (vL a :: vR 76 :: st) μ := aw_putL (f := 2) hO hd hn okX1 tyX1_ok nmX1 (by decide) (lw_t1 218 rfl rfl) rfl rfl (by decide) rfl rfl (by decide) (fun k' ci' fs' hk hne e => noL_at (layC_noL k' hk hne) e) kk
set_option maxRecDepth 100000 in
theorem pC_drawnN {a : Int} (hO : KOk PC Q K cc RX11 nL d ret) (hd : decode cc pc = .ok (.putfield 241, 3)) (hn : pc + 3 = n) (kk : AW K n ls st (mlong μ a)) : AW K pc ls (vL a :: vR 76 :: st) μ := aw_putLN (f := 2) hO hd hn okX1 tyX1_ok nmX1 (by decide) (lw_t1n 219 rfl rfl) rfl rfl (by decide) rfl rfl (by decide) (fun k' ci' fs' hk hne e => noL_at (layC_noL k' hk hne) e) kk
set_option maxRecDepth 100000 in
theorem pC_rulQ {r : Option Nat} (hO : KOk PC Q K cc RX11 nL d ret) (hd : decode cc pc = .ok (.putfield 205, 3)) (hn : pc + 3 = n) (kk : AW K n ls st (mrul μ r)) : AW K pc ls (.inr (.inr r) :: vR 73 :: st) μ := aw_putRN (f := 3) hO hd hn okX3 tyX3_ok nmX3 (by decide) (lw_t1n 199 rfl rfl) rfl rfl (by decide) rfl rfl (by decide) (fun k' ci' fs' hk hne e => noR_at (layC_noR k' hk hne) e) kk
/-- a stretch of static row i copied into cell k -/
def mtb (μ : Mm) (k i dp sp m : Nat) : Mm := (fun k' j => if k' = k ∧ dp ≤ j ∧ j < dp + m then stV i (sp + (j - dp)) else μ.1 k' j, μ.2)
theorem mtb_nk {k i dp sp m k' j : Nat} (h : k' ≠ k) : (mtb μ k i dp sp m).1 k' j = μ.1 k' j := by unfold mtb; dsimp only; rw [if_neg (fun z => h z.1)]
theorem mtb_in {k i dp sp m j : Nat} (h1 : dp ≤ j) (h2 : j < dp + m) : (mtb μ k i dp sp m).1 k j = stV i (sp + (j - dp)) := by unfold mtb; dsimp only; rw [if_pos ⟨rfl, h1, h2⟩]
theorem mtb_out {k i dp sp m j : Nat} (h : j < dp ∨ dp + m ≤ j) : (mtb μ k i dp sp m).1 k j = μ.1 k j := by unfold mtb; dsimp only; rw [if_neg (by omega)]
theorem set_mtb {P : LPk} {q : Nat → Nat} {ca : Nat → ClassId} {k i n1 sp dp m : Nat} {ty : FieldType} (hL : P.1 k = .inl (ty, n1)) :
    (wld P q ca μ).set k (q k, .inl (ca k, n1, .inl (va_cpy (fun j => iI (stV i j)) (fun j => iI (μ.1 k j)) sp dp m))) = wld P q ca (mtb μ k i dp sp m) := by
  refine wld_set ?_ (fun j _ hj => ?_)
  · rw [cellE_arr hL]
    congr 5
    funext j
    unfold va_cpy mtb
    dsimp only
    by_cases e : dp ≤ j ∧ j < dp + m
    · rw [if_pos e, if_pos ⟨rfl, e⟩]
    · rw [if_neg e, if_neg (fun z => e z.2)]
  · unfold cellE
    split
    · simp only [mtb, if_neg (show ¬ (j = k ∧ _) from fun z => hj z.1)]
    · rfl
    · simp only [Sum.inr.injEq, Prod.mk.injEq, true_and]
      apply List.map_congr_left
      intro a _
      unfold fv mtb
      split <;> simp [hj]
theorem aw_cpyT {own : String} {i k1 n1 ix : Nat} {ty : FieldType} {a b c : Int} {sp dp m : Nat} (hO : KOk PC Q K cc own nL d ret) (hd : decode cc pc = .ok (.invokestatic ix, 3)) (hn : pc + 3 = n) (hw : Cond.methodLink own ix arraycopyName ∈ lw_g) (hw2 : Cond.native arraycopyName ∈ lw_g ∧ Cond.static arraycopyName ∈ lw_g ∧ Cond.initialized "java/lang/System" ∈ lw_g)
    (hi : i < 6) (hk1 : k1 < PC.2.1) (hL1 : PC.1 k1 = .inl (.int, n1)) (h0 : stL i < 2147483648) (h1 : n1 < 2147483648) (ha : a = (sp : Int)) (hb : b = (dp : Int)) (hc : c = (m : Int)) (hs : sp + m ≤ stL i) (ht : dp + m ≤ n1) (hdd : 1 ≤ d) (hnl : ls.length = nL) (hst : (st.map fun v => (cv (fun _ => 0) v).category).sum ≤ 8)
    (kk : AW K n ls st (mtb μ k1 i dp sp m)) : AW K pc ls (vI c :: vI b :: vR k1 :: vI a :: vR (86 + i) :: st) μ := by
  subst hn
  subst ha
  subst hb
  subst hc
  have eP := hO.2.2.2.2.2.2.1
  intro H locs Ls hP hS hl
  rw [eP] at hP
  have hts := hO.1.2.2.2.2
  have h8 := st_sum (q := K.q) hst
  have hR := hO.2.1.2.2.2.1
  obtain ⟨hX, hA⟩ := aw_XC hO
  obtain ⟨scr, s1, s2, s3, s4, s5, s6, s7⟩ := (hX.1 i hi).2.narrow hA
  have he1 := wld_get (P := PC) (q := K.q) (ca := K.ca) (μ := μ) hk1
  rw [cellE_arr hL1] at he1
  have ht1 := wty_get (P := PC) (ca := K.ca) hk1
  rw [hL1] at ht1
  have hKK := hO.2.1.1
  rw [eP] at hKK
  have hDD := hO.2.1.2.1 μ
  rw [eP] at hDD
  have z : ∀ x : Nat, x < 2147483648 → ¬ iI (x : Int) < 0 := fun x hx e => by
    have := (iI_lt (a := (x : Int)) (b := 0) ⟨by omega, by omega⟩ (inRlit _)).mp e
    omega
  have c0 : ∀ x : Nat, x < 2147483648 → (iI (x : Int)).toNatClampNeg = x := fun x hx => by rw [iI_nc (by omega) (by omega)]; rfl
  have tI : ∀ x : Nat, x < 2147483648 → (iI (x : Int)).toInt = (x : Int) := fun x hx => toInt_iI ⟨by omega, by omega⟩
  have hc1 : H[K.q k1]? = some (vp_cell (K.ca k1) (n1, .inl (fun j => iI (μ.1 k1 j)))) := hP k1 _ he1
  have hc0 : H[K.q (86 + i)]? = some scr := by rw [hS.2.1 _ (Array.getElem?_eq_some_iff.mp s1).1 s7]; exact s1
  obtain ⟨-, q1, hq1, cm1, hkk1⟩ := (hKK.2 k1 _ ht1).1 n1 (fun j => .int (iI (μ.1 k1 j)))
  obtain ⟨s21, q0, hq0, cm0, hkk0⟩ := s2
  intro T hT X
  obtain ⟨vm', X', step⟩ := X.arraycopy hO.1.1 hO.1.2.2.2.1 (hts _ hw) (hts _ hw2.1) (hts _ hw2.2.1) (hts _ hw2.2.2) (src := K.q (86 + i)) (dst := K.q k1) (cs := scr) (cd := vp_cell (K.ca k1) (n1, .inl (fun j => iI (μ.1 k1 j)))) (srcPos := iI (sp : Int)) (destPos := iI (dp : Int)) (n := iI (m : Int)) (by rw [hT]; exact hc0) (by rw [hT]; exact hc1)
    s21 (fun _ h => by cases h) s3 (fun h => by cases h) hq0 hq1 hkk0 hkk1 rfl (z sp (by omega)) (z dp (by omega)) (z m (by omega))
    (by rw [tI sp (by omega), tI m (by omega)]; omega)
    (by rw [tI dp (by omega), tI m (by omega)]; show ¬ _ > ((arrV (K.ca k1) n1 (fun j => .int (iI (μ.1 k1 j)))).slots.size : Int); rw [arrV_size]; omega)
    (fun vm₁ _ j hj => by
      rw [c0 m (by omega)] at hj
      have e : scr.slots.getD ((iI (sp : Int)).toNatClampNeg + j) .null = .int (iI (stV i (sp + j))) := by
        rw [c0 sp (by omega), Array.getD_eq_getD_getElem?, s6 (sp + j) (by omega)]
        rfl
      rw [e]
      exact ⟨rfl, trivial⟩)
    (g := F0 K.m pc Ls (.int (iI (m : Int)) :: .int (iI (dp : Int)) :: .ref (K.q k1) :: .int (iI (sp : Int)) :: .ref (K.q (86 + i)) :: st.map (cv K.q))) rfl (by show Ls.size = _; rw [hO.1.2.2.1, hl.1, hnl]) (rest := st.map (cv K.q)) rfl (by rw [hO.1.2.1]; exact hd) (by rw [hR]; exact hdd) (by
      rw [hR]
      show 2 * 0 + _ + _ ≤ 60 * d
      have : nativeFrameWords "java/lang/System" "arraycopy" 5 ≤ 40 := by decide +kernel
      omega)
  have e1 : copied scr (vp_cell (K.ca k1) (n1, .inl (fun j => iI (μ.1 k1 j)))) (iI (sp : Int)) (iI (dp : Int)) (iI (m : Int)) = vp_cell (K.ca k1) (n1, .inl (va_cpy (fun j => iI (stV i j)) (fun j => iI (μ.1 k1 j)) sp dp m)) := by
    have hh := va_copied (fun z => .int z) (K.ca k1) (K.ca k1) (n0 := stL i) (fun j => iI (stV i j)) (fun j => iI (μ.1 k1 j)) (n1 := n1) (sp := sp) (dp := dp) (n := m) hs
    have es : scr.stretch sp m = (arrV (K.ca k1) (stL i) (fun j => .int (iI (stV i j)))).stretch sp m := by
      unfold Cell.stretch
      apply List.map_congr_left
      intro j hj
      have hj' := List.mem_range.mp hj
      rw [Array.getD_eq_getD_getElem?, Array.getD_eq_getD_getElem?, arrV_read _ _ (by omega), s6 (sp + j) (by omega)]
    rw [← es] at hh
    refine Eq.trans ?_ hh
    show (arrV (K.ca k1) n1 (fun j => .int (iI (μ.1 k1 j)))).storeRun (iI (dp : Int)).toNatClampNeg (scr.stretch (iI (sp : Int)).toNatClampNeg (iI (m : Int)).toNatClampNeg) = _
    rw [c0 sp (by omega), c0 dp (by omega), c0 m (by omega)]
  rw [e1] at X' step
  have hl2 : K.q k1 < H.size := (Array.getElem?_eq_some_iff.mp hc1).1
  have oq : ∀ q : Nat, q ≠ K.q k1 → (H.setIfInBounds (K.q k1) (vp_cell (K.ca k1) (n1, .inl (va_cpy (fun j => iI (stV i j)) (fun j => iI (μ.1 k1 j)) sp dp m))))[q]? = H[q]? := fun q hq => by simp [Array.getElem?_setIfInBounds, Ne.symm hq]
  have hheap : ((T.setVm vm').setCell (K.q k1) (vp_cell (K.ca k1) (n1, .inl (va_cpy (fun j => iI (stV i j)) (fun j => iI (μ.1 k1 j)) sp dp m)))).heap = H.setIfInBounds (K.q k1) (vp_cell (K.ca k1) (n1, .inl (va_cpy (fun j => iI (stV i j)) (fun j => iI (μ.1 k1 j)) sp dp m))) := by rw [← hT]; rfl
  have hP1 := hP.set (e := .inl (K.ca k1, n1, .inl (va_cpy (fun j => iI (stV i j)) (fun j => iI (μ.1 k1 j)) sp dp m))) hDD he1 (show (H.setIfInBounds (K.q k1) (vp_cell (K.ca k1) (n1, .inl (va_cpy (fun j => iI (stV i j)) (fun j => iI (μ.1 k1 j)) sp dp m))))[K.q k1]? = some _ by simp [Array.getElem?_setIfInBounds, hl2]) oq
  rw [set_mtb hL1] at hP1
  obtain ⟨t, a1, b1⟩ := kk _ _ Ls (by rw [eP]; exact hP1) ⟨by simp; exact hS.1, fun q g1 g2 => by
      rw [oq q (fun e => g2 (by rw [e]; exact hDD.2 k1 _ he1))]
      exact hS.2.1 q g1 g2, fun q hq => by
      rcases List.mem_append.mp hq with h | h
      · exact hS.2.2 q h
      · obtain ⟨w, -, hw⟩ := List.mem_map.mp h
        rw [← hw]
        exact hDD.2 k1 _ he1⟩ hl _ hheap X'
  exact ⟨t, step t a1, b1⟩
end
