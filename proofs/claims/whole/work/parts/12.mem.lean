/-! ## fields and rows of memory -/
/-- a field's value, by its kind -/
def fva (μ : Mm) (k f : Nat) (c : Nat) : AV := match c with
  | 0 => vI (μ.1 k f)
  | 1 => vL μ.2.1
  | 2 => .inr (.inr μ.2.2)
  | t + 3 => vR t
theorem fva_cv (q : Nat → Nat) (μ : Mm) (k f c : Nat) : cv q (fva μ k f c) = fv q μ k f c := by
  match c with
  | 0 => rfl
  | 1 => rfl
  | 2 =>
    show cv q (.inr (.inr μ.2.2)) = va_rf (μ.2.2.map q)
    cases μ.2.2 <;> rfl
  | t + 3 => rfl
theorem cellE_obj {L : Nat → LC} {q : Nat → Nat} {ca : Nat → ClassId} {μ : Mm} {k ci : Nat} {fs : List Nat} (h : L k = .inr (.inr (ci, fs))) : cellE L q ca μ k = .inr (ci, (List.range fs.length).map (fun j => fv q μ k j (fs.getD j 0))) := by
  unfold cellE; rw [h]
theorem cellE_arr {L : Nat → LC} {q : Nat → Nat} {ca : Nat → ClassId} {μ : Mm} {k n : Nat} {ty : FieldType} (h : L k = .inl (ty, n)) : cellE L q ca μ k = .inl (ca k, n, .inl (fun i => iI (μ.1 k i))) := by
  unfold cellE; rw [h]
theorem cellE_ref {L : Nat → LC} {q : Nat → Nat} {ca : Nat → ClassId} {μ : Mm} {k n : Nat} {ty : FieldType} {t : Nat → Nat} (h : L k = .inr (.inl (ty, n, t))) : cellE L q ca μ k = .inl (ca k, n, .inr (.inr (.inr (.inr (fun i => some (q (t i))))))) := by
  unfold cellE; rw [h]
/-- what the tables say of a class, its number and its fields -/
def ClsOk (ci : Nat) (C : String) (T : u_T) (N : Nat) : Prop := vwCl[ci]? = some (C, T, N) ∧ ∀ w ∈ u_ws C T N, w ∈ lw_g
section
variable {P : LPk} {Q : Option AV → Mm → Prop} {K : KT} {cc : ByteArray} {own : String} {nL d : Nat} {ret : Option FieldType} {pc n : Nat} {ls : List (Option AV)} {st : List AV} {μ : Mm}
theorem aw_get {k f c ci N ix : Nat} {C : String} {T : u_T} {fs : List Nat} {v : AV} (hO : KOk P Q K cc own nL d ret) (hd : decode cc pc = .ok (.getfield ix, 3)) (hn : pc + 3 = n) (hC : ClsOk ci C T N) (hf : f < N) (hw : Cond.fieldLink own ix (T f).1 (T f).2.1 (T f).2.2.1 ∈ lw_g)
    (hk : k < P.2.1) (hL : P.1 k = .inr (.inr (ci, fs))) (hfs : fs[f]? = some c) (hv : fva μ k f c = v) (kk : AW K n ls (v :: st) μ) : AW K pc ls (vR k :: st) μ := by
  subst hn
  have eP := hO.2.2.2.2.2.2.1
  subst eP
  intro H locs Ls hP hS hl
  have he := wld_get (P := K.P) (q := K.q) (ca := K.ca) (μ := μ) hk
  rw [cellE_obj hL] at he
  refine va_get hO.1.1 hO.1.2.1 hO.1.2.2.2.2 hC.2 hO.1.2.2.2.1 hO.2.1.1 hP k he hC.1 f hf (hO.1.2.2.2.2 _ hw) (fun _ h => h) (v := cv K.q v) ?_ hd (kk H locs Ls hP hS hl)
  have hlt : f < fs.length := (List.getElem?_eq_some_iff.mp hfs).1
  rw [List.getElem?_map, List.getElem?_range hlt, ← hv, fva_cv]
  simp [List.getD, hfs]
theorem aw_getN {k f c ci N ix : Nat} {C host : String} {T : u_T} {fs : List Nat} {v : AV} (hO : KOk P Q K cc own nL d ret) (hd : decode cc pc = .ok (.getfield ix, 3)) (hn : pc + 3 = n) (hC : ClsOk ci C T N) (hf : f < N) (hw : Cond.fieldLinkNest own ix (T f).1 (T f).2.1 (T f).2.2.1 host ∈ lw_n)
    (hk : k < P.2.1) (hL : P.1 k = .inr (.inr (ci, fs))) (hfs : fs[f]? = some c) (hv : fva μ k f c = v) (kk : AW K n ls (v :: st) μ) : AW K pc ls (vR k :: st) μ := by
  subst hn
  have eP := hO.2.2.2.2.2.2.1
  subst eP
  intro H locs Ls hP hS hl
  have he := wld_get (P := K.P) (q := K.q) (ca := K.ca) (μ := μ) hk
  rw [cellE_obj hL] at he
  refine va_getN hO.1.1 hO.1.2.1 hO.1.2.2.2.2 hC.2 hO.1.2.2.2.1 hO.2.1.1 hP k he hC.1 f hf (va_Nw.use rfl (hO.2.2.2.2.2.2.2.2 _ hw)) (fun _ h => h) (v := cv K.q v) ?_ hd (kk H locs Ls hP hS hl)
  have hlt : f < fs.length := (List.getElem?_eq_some_iff.mp hfs).1
  rw [List.getElem?_map, List.getElem?_range hlt, ← hv, fva_cv]
  simp [List.getD, hfs]
/-- an object's cell with one field written -/
theorem set_fld {q : Nat → Nat} {μ μ' : Mm} {k f : Nat} {fs : List Nat} {v : Value} (hv : f < fs.length) (h1 : fv q μ' k f (fs.getD f 0) = v) (h2 : ∀ j, j < fs.length → j ≠ f → fv q μ' k j (fs.getD j 0) = fv q μ k j (fs.getD j 0)) :
    ((List.range fs.length).map (fun j => fv q μ k j (fs.getD j 0))).set f v = (List.range fs.length).map (fun j => fv q μ' k j (fs.getD j 0)) := by
  apply List.ext_getElem?
  intro j
  by_cases hj : j < fs.length
  · by_cases e : f = j
    · subst e
      rw [List.getElem?_set_self (by simpa using hj), List.getElem?_map, List.getElem?_range hj, ← h1]
      rfl
    · rw [List.getElem?_set_ne e, List.getElem?_map, List.getElem?_map, List.getElem?_range hj]
      simp only [Option.map_some]
      rw [h2 j hj (fun z => e z.symm)]
  · rw [List.getElem?_eq_none (by simp; omega), List.getElem?_eq_none (by simp; omega)]
theorem set_num {P : LPk} {q : Nat → Nat} {ca : Nat → ClassId} {μ : Mm} {k f ci : Nat} {fs : List Nat} {a : Int} (hL : P.1 k = .inr (.inr (ci, fs))) (hfs : fs[f]? = some 0) :
    (wld P q ca μ).set k (q k, .inr (ci, ((List.range fs.length).map (fun j => fv q μ k j (fs.getD j 0))).set f (.int (iI a)))) = wld P q ca (mst μ k f a) := by
  have hlt : f < fs.length := (List.getElem?_eq_some_iff.mp hfs).1
  have hg : fs.getD f 0 = 0 := by simp [List.getD, hfs]
  refine wld_set ?_ (fun j _ hj => cellE_mst hj)
  rw [cellE_obj hL, set_fld (μ' := mst μ k f a) hlt (by rw [hg]; simp [fv, mst]) (fun j _ hj => by
    unfold fv mst
    split <;> simp [hj])]
theorem aw_put {k f ci N ix : Nat} {C : String} {T : u_T} {ty0 : Nat → FieldType} {fs : List Nat} {a : Int} (hO : KOk P Q K cc own nL d ret) (hd : decode cc pc = .ok (.putfield ix, 3)) (hn : pc + 3 = n) (hC : ClsOk ci C T N) (hty : ∀ k, k < N → parseFieldDescriptor (T k).2.2.1 = some (ty0 k)) (hnm : ∀ a, a < N → ∀ b, b < N → a ≠ b → (T a).2.1 ≠ (T b).2.1) (hf : f < N) (hw : Cond.fieldLink own ix (T f).1 (T f).2.1 (T f).2.2.1 ∈ lw_g)
    (hfin : (T f).2.2.2 = false) (hnar : narrow (ty0 f) (.int (iI a)) = .int (iI a)) (hfit : fits (ty0 f) (.int (iI a)) = true)
    (hk : k < P.2.1) (hL : P.1 k = .inr (.inr (ci, fs))) (hfs : fs[f]? = some 0) (kk : AW K n ls st (mst μ k f a)) : AW K pc ls (vI a :: vR k :: st) μ := by
  subst hn
  have eP := hO.2.2.2.2.2.2.1
  subst eP
  intro H locs Ls hP hS hl
  have he := wld_get (P := K.P) (q := K.q) (ca := K.ca) (μ := μ) hk
  rw [cellE_obj hL] at he
  have hlt : f < fs.length := (List.getElem?_eq_some_iff.mp hfs).1
  refine va_put hO.1.1 hO.1.2.1 hO.1.2.2.2.2 hC.2 ty0 hty hnm hO.1.2.2.2.1 hO.2.1.1 hP (hO.2.1.2.1 μ) hS k he hC.1 f hf (hO.1.2.2.2.2 _ hw) (fun _ h => h) hfin (v := .int (iI a)) (hty f hf) hnar hfit (by simpa using hlt) hd (fun H1 locs1 hP1 _ hS1 => ?_)
  rw [set_num hL hfs] at hP1
  exact kk H1 locs1 Ls hP1 hS1 hl
theorem aw_putN {k f ci N ix : Nat} {C host : String} {T : u_T} {ty0 : Nat → FieldType} {fs : List Nat} {a : Int} (hO : KOk P Q K cc own nL d ret) (hd : decode cc pc = .ok (.putfield ix, 3)) (hn : pc + 3 = n) (hC : ClsOk ci C T N) (hty : ∀ k, k < N → parseFieldDescriptor (T k).2.2.1 = some (ty0 k)) (hnm : ∀ a, a < N → ∀ b, b < N → a ≠ b → (T a).2.1 ≠ (T b).2.1) (hf : f < N) (hw : Cond.fieldLinkNest own ix (T f).1 (T f).2.1 (T f).2.2.1 host ∈ lw_n)
    (hfin : (T f).2.2.2 = false) (hnar : narrow (ty0 f) (.int (iI a)) = .int (iI a)) (hfit : fits (ty0 f) (.int (iI a)) = true)
    (hk : k < P.2.1) (hL : P.1 k = .inr (.inr (ci, fs))) (hfs : fs[f]? = some 0) (kk : AW K n ls st (mst μ k f a)) : AW K pc ls (vI a :: vR k :: st) μ := by
  subst hn
  have eP := hO.2.2.2.2.2.2.1
  subst eP
  intro H locs Ls hP hS hl
  have he := wld_get (P := K.P) (q := K.q) (ca := K.ca) (μ := μ) hk
  rw [cellE_obj hL] at he
  have hlt : f < fs.length := (List.getElem?_eq_some_iff.mp hfs).1
  refine va_putN hO.1.1 hO.1.2.1 hO.1.2.2.2.2 hC.2 ty0 hty hnm hO.1.2.2.2.1 hO.2.1.1 hP (hO.2.1.2.1 μ) hS k he hC.1 f hf (va_Nw.use rfl (hO.2.2.2.2.2.2.2.2 _ hw)) (fun _ h => h) hfin (v := .int (iI a)) (hty f hf) hnar hfit (by simpa using hlt) hd (fun H1 locs1 hP1 _ hS1 => ?_)
  rw [set_num hL hfs] at hP1
  exact kk H1 locs1 Ls hP1 hS1 hl
theorem aw_iald {k N : Nat} {a : Int} (hO : KOk P Q K cc own nL d ret) (hd : decode cc pc = .ok (.iaload, 1)) (hn : pc + 1 = n) (hk : k < P.2.1) (hL : P.1 k = .inl (.int, N)) (hN : N < 2147483648) (h1 : 0 ≤ a) (h2 : a < (N : Int)) (kk : AW K n ls (vI (μ.1 k a.toNat) :: st) μ) : AW K pc ls (vI a :: vR k :: st) μ := by
  subst hn
  have eP := hO.2.2.2.2.2.2.1
  subst eP
  intro H locs Ls hP hS hl
  have he := wld_get (P := K.P) (q := K.q) (ca := K.ca) (μ := μ) hk
  rw [cellE_arr hL] at he
  have ht := wty_get (P := K.P) (ca := K.ca) hk
  rw [hL] at ht
  refine va_iald hO.1.1 hO.1.2.1 hO.2.1.1 hP k k he ht (iI_in h1 h2 hN) hd ?_
  rw [iI_nc h1 (by omega)]
  exact kk H locs Ls hP hS hl
theorem set_arr {P : LPk} {q : Nat → Nat} {ca : Nat → ClassId} {μ : Mm} {k i n : Nat} {ty : FieldType} {a : Int} (hL : P.1 k = .inl (ty, n)) :
    (wld P q ca μ).set k (q k, .inl (ca k, n, .inl (upd (fun i => iI (μ.1 k i)) i (iI a)))) = wld P q ca (mst μ k i a) := by
  refine wld_set ?_ (fun j _ hj => cellE_mst hj)
  rw [cellE_arr hL]
  congr 5
  funext j
  unfold upd mst
  by_cases e : j = i <;> simp [e]
theorem aw_iast {k N : Nat} {a v : Int} (hO : KOk P Q K cc own nL d ret) (hd : decode cc pc = .ok (.iastore, 1)) (hn : pc + 1 = n) (hk : k < P.2.1) (hL : P.1 k = .inl (.int, N)) (hN : N < 2147483648) (h1 : 0 ≤ a) (h2 : a < (N : Int)) (kk : AW K n ls st (mst μ k a.toNat v)) : AW K pc ls (vI v :: vI a :: vR k :: st) μ := by
  subst hn
  have eP := hO.2.2.2.2.2.2.1
  subst eP
  intro H locs Ls hP hS hl
  have he := wld_get (P := K.P) (q := K.q) (ca := K.ca) (μ := μ) hk
  rw [cellE_arr hL] at he
  have ht := wty_get (P := K.P) (ca := K.ca) hk
  rw [hL] at ht
  refine va_iast hO.1.1 hO.1.2.1 hO.2.1.1 hP (hO.2.1.2.1 μ) hS k k he ht (iI_in h1 h2 hN) hd (fun H1 locs1 hP1 _ hS1 => ?_)
  rw [iI_nc h1 (by omega), set_arr hL] at hP1
  exact kk H1 locs1 Ls hP1 hS1 hl
theorem aw_alen {k N : Nat} {ty : FieldType} (hO : KOk P Q K cc own nL d ret) (hd : decode cc pc = .ok (.arraylength, 1)) (hn : pc + 1 = n) (hk : k < P.2.1) (hL : P.1 k = .inl (ty, N)) (kk : AW K n ls (vI (N : Int) :: st) μ) : AW K pc ls (vR k :: st) μ := by
  subst hn
  have eP := hO.2.2.2.2.2.2.1
  subst eP
  intro H locs Ls hP hS hl
  have he := wld_get (P := K.P) (q := K.q) (ca := K.ca) (μ := μ) hk
  rw [cellE_arr hL] at he
  have ht := wty_get (P := K.P) (ca := K.ca) hk
  refine va_alen hO.1.1 hO.1.2.1 hO.2.1.1 hP k k he ht (v := iI (N : Int)) Int32.ofInt_eq_ofNat.symm hd ?_
  exact kk H locs Ls hP hS hl
/-! ## ends -/
theorem aw_iret {a : Int} (hO : KOk P Q K cc own nL d (some .int)) (hd : decode cc pc = .ok (.ireturn, 1)) (hq : Q (some (vI a)) μ) : AW K pc ls [vI a] μ := by
  have eQ := hO.2.2.2.2.2.2.2.1
  subst eQ
  intro H locs Ls hP hS hl
  exact W.iret hO.1.1 hO.1.2.1 hO.2.1.2.2.2.2.1 (fun t ht _ => ⟨⟨some (vI a), μ, rfl, hq, by rw [ht]; exact hP⟩, hS.F ht⟩) hS.2.2 hd (hlocks := hO.2.1.2.2.2.2.2)
theorem aw_zret {a : Int} (hO : KOk P Q K cc own nL d (some .boolean)) (hd : decode cc pc = .ok (.ireturn, 1)) (ha : a = 0 ∨ a = 1) (hq : Q (some (vI a)) μ) : AW K pc ls [vI a] μ := by
  have eQ := hO.2.2.2.2.2.2.2.1
  subst eQ
  intro H locs Ls hP hS hl
  exact W.zret (v := iI a) hO.1.1 hO.1.2.1 hO.2.1.2.2.2.2.1 (by rcases ha with rfl | rfl <;> rfl) (fun t ht _ => ⟨⟨some (vI a), μ, rfl, hq, by rw [ht]; exact hP⟩, hS.F ht⟩) hS.2.2 hd (hlocks := hO.2.1.2.2.2.2.2)
theorem aw_lret {a : Int} (hO : KOk P Q K cc own nL d (some .long)) (hd : decode cc pc = .ok (.lreturn, 1)) (hq : Q (some (vL a)) μ) : AW K pc ls [vL a] μ := by
  have eQ := hO.2.2.2.2.2.2.2.1
  subst eQ
  intro H locs Ls hP hS hl
  exact W.lret hO.1.1 hO.1.2.1 hO.2.1.2.2.2.2.1 (fun t ht _ => ⟨⟨some (vL a), μ, rfl, hq, by rw [ht]; exact hP⟩, hS.F ht⟩) hS.2.2 hd (hlocks := hO.2.1.2.2.2.2.2)
theorem aw_vret (hO : KOk P Q K cc own nL d none) (hd : decode cc pc = .ok (.return_, 1)) (hq : Q none μ) : AW K pc ls [] μ := by
  have eQ := hO.2.2.2.2.2.2.2.1
  subst eQ
  intro H locs Ls hP hS hl
  exact W.vret hO.1.1 hO.1.2.1 hO.2.1.2.2.2.2.1 (fun t ht _ => ⟨⟨none, μ, rfl, hq, by rw [ht]; exact hP⟩, hS.F ht⟩) hS.2.2 hd (hlocks := hO.2.1.2.2.2.2.2)
end
