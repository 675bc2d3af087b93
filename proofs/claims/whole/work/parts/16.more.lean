/-! ## longs, booleans; a cell's contents as a function -/
section
variable {P : LPk} {Q : Option AV → Mm → Prop} {K : KT} {cc : ByteArray} {own : String} {nL d : Nat} {ret : Option FieldType} {pc n : Nat} {ls : List (Option AV)} {st : List AV} {μ : Mm}
/-- only one object of the world bears the long, at one field -/
theorem set_lng {P : LPk} {q : Nat → Nat} {ca : Nat → ClassId} {μ : Mm} {k f ci : Nat} {fs : List Nat} {a : Int} (hL : P.1 k = .inr (.inr (ci, fs))) (hfs : fs[f]? = some 1) (h1 : ∀ j, j < fs.length → j ≠ f → fs.getD j 0 ≠ 1) (h2 : ∀ k' ci' fs', k' < P.2.1 → k' ≠ k → P.1 k' = .inr (.inr (ci', fs')) → ∀ j, j < fs'.length → fs'.getD j 0 ≠ 1) :
    (wld P q ca μ).set k (q k, .inr (ci, ((List.range fs.length).map (fun j => fv q μ k j (fs.getD j 0))).set f (.long (lI a)))) = wld P q ca (mlong μ a) := by
  have hlt : f < fs.length := (List.getElem?_eq_some_iff.mp hfs).1
  have hg : fs.getD f 0 = 1 := by simp [List.getD, hfs]
  have hfv : ∀ k j c, c ≠ 1 → fv q (mlong μ a) k j c = fv q μ k j c := by
    intro k j c hc
    unfold fv mlong
    split
    · rfl
    · exact absurd rfl hc
    · rfl
    · rfl
  refine wld_set ?_ (fun j hj hjk => ?_)
  · rw [cellE_obj hL, set_fld (μ' := mlong μ a) hlt (by rw [hg]; rfl) (fun j hj hne => hfv _ _ _ (h1 j hj hne))]
  · unfold cellE
    split
    · rfl
    · rfl
    · rename_i ci' fs' hc
      simp only [Sum.inr.injEq, Prod.mk.injEq, true_and]
      apply List.map_congr_left
      intro i hi
      exact (hfv _ _ _ (h2 j ci' fs' hj hjk hc i (List.mem_range.mp hi))).symm
theorem aw_putL {k f ci N ix : Nat} {C : String} {T : u_T} {ty0 : Nat → FieldType} {fs : List Nat} {a : Int} (hO : KOk P Q K cc own nL d ret) (hd : decode cc pc = .ok (.putfield ix, 3)) (hn : pc + 3 = n) (hC : ClsOk ci C T N) (hty : ∀ k, k < N → parseFieldDescriptor (T k).2.2.1 = some (ty0 k)) (hnm : ∀ a, a < N → ∀ b, b < N → a ≠ b → (T a).2.1 ≠ (T b).2.1) (hf : f < N) (hw : Cond.fieldLink own ix (T f).1 (T f).2.1 (T f).2.2.1 ∈ lw_g)
    (hfin : (T f).2.2.2 = false) (hnar : ty0 f = .long)
    (hk : k < P.2.1) (hL : P.1 k = .inr (.inr (ci, fs))) (hfs : fs[f]? = some 1) (h1 : ∀ j, j < fs.length → j ≠ f → fs.getD j 0 ≠ 1) (h2 : ∀ k' ci' fs', k' < P.2.1 → k' ≠ k → P.1 k' = .inr (.inr (ci', fs')) → ∀ j, j < fs'.length → fs'.getD j 0 ≠ 1) (kk : AW K n ls st (mlong μ a)) : AW K pc ls (vL a :: vR k :: st) μ := by
  subst hn
  have eP := hO.2.2.2.2.2.2.1
  subst eP
  intro H locs Ls hP hS hl
  have he := wld_get (P := K.P) (q := K.q) (ca := K.ca) (μ := μ) hk
  rw [cellE_obj hL] at he
  have hlt : f < fs.length := (List.getElem?_eq_some_iff.mp hfs).1
  refine va_put hO.1.1 hO.1.2.1 hO.1.2.2.2.2 hC.2 ty0 hty hnm hO.1.2.2.2.1 hO.2.1.1 hP (hO.2.1.2.1 μ) hS k he hC.1 f hf (hO.1.2.2.2.2 _ hw) (fun _ h => h) hfin (v := .long (lI a)) (hty f hf) (by rw [hnar]; rfl) (by rw [hnar]; rfl) (by simpa using hlt) hd (fun H1 locs1 hP1 _ hS1 => ?_)
  rw [set_lng hL hfs h1 h2] at hP1
  exact kk H1 locs1 Ls hP1 hS1 hl
theorem z_nar {a : Int} (h : a = 0 ∨ a = 1) : narrow .boolean (.int (iI a)) = .int (iI a) ∧ fits .boolean (.int (iI a)) = true := by rcases h with rfl | rfl <;> exact ⟨rfl, rfl⟩
theorem aw_zald {k N : Nat} {a : Int} {i : Nat} (hO : KOk P Q K cc own nL d ret) (hd : decode cc pc = .ok (.baload, 1)) (hn : pc + 1 = n) (hk : k < P.2.1) (hL : P.1 k = .inl (.boolean, N)) (hN : N < 2147483648) (hi : a = (i : Int)) (h2 : i < N) (kk : AW K n ls (vI (μ.1 k i) :: st) μ) : AW K pc ls (vI a :: vR k :: st) μ := by
  subst hn
  subst hi
  have eP := hO.2.2.2.2.2.2.1
  subst eP
  intro H locs Ls hP hS hl
  have he := wld_get (P := K.P) (q := K.q) (ca := K.ca) (μ := μ) hk
  rw [cellE_arr hL] at he
  have ht := wty_get (P := K.P) (ca := K.ca) hk
  rw [hL] at ht
  refine va_zald hO.1.1 hO.1.2.1 hO.2.1.1 hP k k he ht (iI_in (by omega) (by omega) hN) hd ?_
  rw [iI_nc (by omega) (by omega)]
  exact kk H locs Ls hP hS hl
theorem aw_zast {k N : Nat} {a v : Int} {i : Nat} (hO : KOk P Q K cc own nL d ret) (hd : decode cc pc = .ok (.bastore, 1)) (hn : pc + 1 = n) (hk : k < P.2.1) (hL : P.1 k = .inl (.boolean, N)) (hN : N < 2147483648) (hi : a = (i : Int)) (h2 : i < N) (hv : v = 0 ∨ v = 1) (kk : AW K n ls st (mst μ k i v)) : AW K pc ls (vI v :: vI a :: vR k :: st) μ := by
  subst hn
  subst hi
  have eP := hO.2.2.2.2.2.2.1
  subst eP
  intro H locs Ls hP hS hl
  have he := wld_get (P := K.P) (q := K.q) (ca := K.ca) (μ := μ) hk
  rw [cellE_arr hL] at he
  have ht := wty_get (P := K.P) (ca := K.ca) hk
  rw [hL] at ht
  refine va_zast hO.1.1 hO.1.2.1 hO.2.1.1 hP (hO.2.1.2.1 μ) hS k k he ht (iI_in (by omega) (by omega) hN) hd (fun H1 locs1 hP1 _ hS1 => ?_)
  have ev : vp_nar .boolean (iI v) = iI v := by unfold vp_nar; rw [(z_nar hv).1]
  first
    | rw [ev, iI_nc (by omega) (by omega), set_arr hL] at hP1
    | rw [iI_nc (by omega) (by omega), set_arr hL] at hP1
  exact kk H1 locs1 Ls hP1 hS1 hl
end
/-- one place of a row of numbers written -/
def fu (f : Nat → Int) (i : Nat) (v : Int) : Nat → Int := fun j => if j = i then v else f j
theorem mst_row (μ : Mm) (k i : Nat) (v : Int) : mst μ k i v = mrow μ k (fu (μ.1 k) i v) := by
  unfold mst mrow fu
  refine Prod.ext (funext fun k' => funext fun i' => ?_) rfl
  simp only
  by_cases h : k' = k
  · subst h; simp
  · simp [h]
theorem mrow_at {μ : Mm} {k : Nat} {f : Nat → Int} : (mrow μ k f).1 k = f := by simp [mrow]
theorem mrow_nk {μ : Mm} {k k' : Nat} {f : Nat → Int} (h : k' ≠ k) : (mrow μ k f).1 k' = μ.1 k' := by simp [mrow, h]
theorem mrow_mrow {μ : Mm} {k : Nat} {f g : Nat → Int} : mrow (mrow μ k f) k g = mrow μ k g := by
  unfold mrow
  refine Prod.ext (funext fun k' => ?_) rfl
  simp only
  by_cases h : k' = k <;> simp [h]
theorem mst_mrow {μ : Mm} {k i : Nat} {f : Nat → Int} {v : Int} : mst (mrow μ k f) k i v = mrow μ k (fu f i v) := by rw [mst_row, mrow_at, mrow_mrow]
theorem mrow_self (μ : Mm) (k : Nat) : mrow μ k (μ.1 k) = μ := by
  unfold mrow
  refine Prod.ext (funext fun k' => ?_) rfl
  simp only
  by_cases h : k' = k
  · subst h; simp
  · simp [h]
theorem fu_eq {f : Nat → Int} {i : Nat} {v : Int} : fu f i v i = v := if_pos rfl
theorem fu_ne {f : Nat → Int} {i j : Nat} {v : Int} (h : j ≠ i) : fu f i v j = f j := if_neg h
/-! ## draws -/
theorem lUsh_rng (a : Int) : 0 ≤ lUsh a 33 ∧ lUsh a 33 < 2147483648 := by
  unfold lUsh
  generalize (lI a).toUInt64 = x
  have h1 : ((iI 33).toInt64.toUInt64 &&& Int64.toUInt64 63) = 33 := by decide
  rw [h1]
  have h2 : (x >>> (33 : UInt64)).toNat < 2147483648 := by
    rw [UInt64.toNat_shiftRight]
    have : (33 : UInt64).toNat % 64 = 33 := by decide
    rw [this, Nat.shiftRight_eq_div_pow]
    have := x.toNat_lt
    omega
  have h3 : (x >>> (33 : UInt64)).toInt64.toInt = ((x >>> (33 : UInt64)).toNat : Int) := by
    rw [show (x >>> (33 : UInt64)).toInt64.toInt = (x >>> (33 : UInt64)).toBitVec.toInt from rfl, BitVec.toInt_eq_toNat_cond]
    rw [if_pos]
    · rfl
    · show 2 * (x >>> (33 : UInt64)).toNat < 2 ^ 64
      omega
  rw [h3]
  omega
/-- the seed behind a draw; the draw of j by it -/
def seed1 (x : Int) : Int := x * 6364136223846793005 + 1442695040888963407
def drw (x j : Int) : Int := (lUsh x 33).tmod j
theorem drw_rng {x j : Int} (hj : 0 < j) : 0 ≤ drw x j ∧ drw x j < j := by
  have h := lUsh_rng x
  unfold drw
  rw [Int.tmod_eq_emod_of_nonneg h.1]
  exact ⟨Int.emod_nonneg _ (by omega), Int.emod_lt_of_pos _ hj⟩
/-- fewer locals known -/
def fgt : List (Option AV) → List (Option AV) → Prop
  | [], [] => True
  | none :: a, _ :: b => fgt a b
  | some v :: a, w :: b => w = some v ∧ fgt a b
  | _, _ => False
theorem fgt_len : ∀ {a b : List (Option AV)}, fgt a b → a.length = b.length
  | [], [], _ => rfl
  | none :: a, _ :: b, h => by simp [fgt_len (a := a) (b := b) h]
  | some v :: a, w :: b, h => by simp [fgt_len (a := a) (b := b) h.2]
  | [], _ :: _, h => h.elim
  | none :: _, [], h => h.elim
  | some _ :: _, [], h => h.elim
theorem fgt_at : ∀ {a b : List (Option AV)}, fgt a b → ∀ (i : Nat) (v : AV), a[i]? = some (some v) → b[i]? = some (some v)
  | [], [], _, i, v, h => by simp at h
  | none :: a, _ :: b, h, i, v, hi => by
    cases i with
    | zero => simp at hi
    | succ i => simp at hi ⊢; exact fgt_at (a := a) (b := b) h i v hi
  | some u :: a, w :: b, h, i, v, hi => by
    cases i with
    | zero => simp at hi ⊢; rw [h.1, hi]
    | succ i => simp at hi ⊢; exact fgt_at (a := a) (b := b) h.2 i v hi
  | [], _ :: _, h, _, _, _ => h.elim
  | none :: _, [], h, _, _, _ => h.elim
  | some _ :: _, [], h, _, _, _ => h.elim
theorem aw_fg {K : KT} {pc : Nat} {ls ls' : List (Option AV)} {st : List AV} {μ : Mm} (h : fgt ls' ls) (kk : AW K pc ls' st μ) : AW K pc ls st μ := aw_forget (fgt_len h) (fgt_at h) kk
