theorem inRlit (a : Int) (h1 : -2147483648 ≤ a := by decide) (h2 : a ≤ 2147483647 := by decide) : InR a := ⟨h1, h2⟩
theorem inRn {n : Nat} (h : n < 2147483648) : InR (n : Int) := ⟨by omega, by omega⟩
/-- every number of the memory is one of the machine -/
def WF (μ : Mm) : Prop := ∀ k i, InR (μ.1 k i)
theorem WF.mst {μ : Mm} {k i : Nat} {a : Int} (h : WF μ) (ha : InR a) : WF (mst μ k i a) := fun k' i' => by
  show InR (if k' = k ∧ i' = i then a else μ.1 k' i')
  split
  · exact ha
  · exact h k' i'
theorem mst_eq {μ : Mm} {k i : Nat} {a : Int} : (mst μ k i a).1 k i = a := by simp [mst]
theorem mst_nk {μ : Mm} {k k' i i' : Nat} {a : Int} (h : k' ≠ k) : (mst μ k i a).1 k' i' = μ.1 k' i' := by simp [mst, h]
theorem mst_ni {μ : Mm} {k k' i i' : Nat} {a : Int} (h : i' ≠ i) : (mst μ k i a).1 k' i' = μ.1 k' i' := by simp [mst, h]
theorem mst_2 {μ : Mm} {k i : Nat} {a : Int} : (mst μ k i a).2 = μ.2 := rfl
section
variable {P : LPk} {Q : Option AV → Mm → Prop} {K : KT} {cc : ByteArray} {own : String} {nL d : Nat} {ret : Option FieldType} {pc n : Nat} {ls : List (Option AV)} {st : List AV} {μ : Mm}
theorem aw_cg {a b : Int} (h : a = b) (kk : AW K pc ls (vI b :: st) μ) : AW K pc ls (vI a :: st) μ := by rw [h]; exact kk
theorem aw_nm {a : Int} (kk : ∀ x, x = a → AW K pc ls (vI x :: st) μ) : AW K pc ls (vI a :: st) μ := kk a rfl
theorem aw_mm {μ' : Mm} (kk : ∀ m, m = μ' → AW K pc ls st m) : AW K pc ls st μ' := kk μ' rfl
theorem aw_meq {μ' : Mm} (h : μ = μ') (kk : AW K pc ls st μ') : AW K pc ls st μ := by rw [h]; exact kk
theorem aw_lsq {ls' : List (Option AV)} (h : ls = ls') (kk : AW K pc ls' st μ) : AW K pc ls st μ := by rw [h]; exact kk
theorem aw_stq {st' : List AV} (h : st = st') (kk : AW K pc ls st' μ) : AW K pc ls st μ := by rw [h]; exact kk
/-- fewer locals are known -/
theorem aw_forget {ls' : List (Option AV)} (hlen : ls'.length = ls.length) (h : ∀ (i : Nat) (v : AV), ls'[i]? = some (some v) → ls[i]? = some (some v)) (kk : AW K pc ls' st μ) : AW K pc ls st μ := by
  intro H locs Ls hP hS hl
  exact kk H locs Ls hP hS ⟨hl.1.trans hlen.symm, hl.2.1, fun i v hi => hl.2.2 i v (h i v hi)⟩
theorem aw_ialdn {k N : Nat} {a : Int} {i : Nat} (hO : KOk P Q K cc own nL d ret) (hd : decode cc pc = .ok (.iaload, 1)) (hn : pc + 1 = n) (hk : k < P.2.1) (hL : P.1 k = .inl (.int, N)) (hN : N < 2147483648) (hi : a = (i : Int)) (h2 : i < N) (kk : AW K n ls (vI (μ.1 k i) :: st) μ) : AW K pc ls (vI a :: vR k :: st) μ := by
  subst hi
  exact aw_iald hO hd hn hk hL hN (by omega) (by omega) kk
theorem aw_iastn {k N : Nat} {a v : Int} {i : Nat} (hO : KOk P Q K cc own nL d ret) (hd : decode cc pc = .ok (.iastore, 1)) (hn : pc + 1 = n) (hk : k < P.2.1) (hL : P.1 k = .inl (.int, N)) (hN : N < 2147483648) (hi : a = (i : Int)) (h2 : i < N) (kk : AW K n ls st (mst μ k i v)) : AW K pc ls (vI v :: vI a :: vR k :: st) μ := by
  subst hi
  exact aw_iast hO hd hn hk hL hN (by omega) (by omega) kk
theorem st_sum {q : Nat → Nat} (h : (st.map fun v => (cv (fun _ => 0) v).category).sum ≤ 8) : ((st.map (cv q)).map fun v => v.category).sum ≤ 8 := by
  rw [List.map_map]
  refine Nat.le_trans (Nat.le_of_eq ?_) h
  congr 1
  apply List.map_congr_left
  intro v _
  rcases v with a | x | _ | k <;> rfl
theorem aw_mmax {ix : Nat} {a b : Int} (hO : KOk P Q K cc own nL d ret) (hd : decode cc pc = .ok (.invokestatic ix, 3)) (hn : pc + 3 = n) (hw : Cond.methodLink own ix Lib.Math.max.name ∈ lw_g) (hw2 : Cond.static Lib.Math.max.name ∈ lw_g ∧ Cond.initialized "java/lang/Math" ∈ lw_g ∧ Cond.code Lib.Math.max.name Lib.Math.max.code 2 (some .int) ∈ lw_g) (hdd : 1 ≤ d) (hnl : ls.length = nL) (hst : (st.map fun v => (cv (fun _ => 0) v).category).sum ≤ 8) (ha : InR a) (hb : InR b)
    (kk : AW K n ls (vI (max a b) :: st) μ) : AW K pc ls (vI b :: vI a :: st) μ := by
  subst hn
  intro H locs Ls hP hS hl
  have hts := hO.1.2.2.2.2
  have h8 := st_sum (q := K.q) hst
  have hR := hO.2.1.2.2.2.1
  refine va_mmax hO.1.1 hO.1.2.1 (by rw [hO.1.2.2.1, hl.1, hnl]) hO.1.2.2.2.1 (hts _ hw) (hts _ hw2.1) (hts _ hw2.2.1) (hts _ hw2.2.2) (by rw [hR]; exact hdd) (by rw [hR]; show _ ≤ 60 * d; omega) (Nat.zero_le _) (Nat.zero_le _) hd ?_
  have e : (if iI a < iI b then iI b else iI a) = iI (max a b) := by
    simp only [iI_lt ha hb]
    split
    · rw [Int.max_eq_right (by omega)]
    · rw [Int.max_eq_left (by omega)]
  rw [e]
  exact kk H locs Ls hP hS hl
theorem aw_mmin {ix : Nat} {a b : Int} (hO : KOk P Q K cc own nL d ret) (hd : decode cc pc = .ok (.invokestatic ix, 3)) (hn : pc + 3 = n) (hw : Cond.methodLink own ix Lib.Math.min.name ∈ lw_g) (hw2 : Cond.static Lib.Math.min.name ∈ lw_g ∧ Cond.initialized "java/lang/Math" ∈ lw_g ∧ Cond.code Lib.Math.min.name Lib.Math.min.code 2 (some .int) ∈ lw_g) (hdd : 1 ≤ d) (hnl : ls.length = nL) (hst : (st.map fun v => (cv (fun _ => 0) v).category).sum ≤ 8) (ha : InR a) (hb : InR b)
    (kk : AW K n ls (vI (min a b) :: st) μ) : AW K pc ls (vI b :: vI a :: st) μ := by
  subst hn
  intro H locs Ls hP hS hl
  have hts := hO.1.2.2.2.2
  have h8 := st_sum (q := K.q) hst
  have hR := hO.2.1.2.2.2.1
  refine va_mmin hO.1.1 hO.1.2.1 (by rw [hO.1.2.2.1, hl.1, hnl]) hO.1.2.2.2.1 (hts _ hw) (hts _ hw2.1) (hts _ hw2.2.1) (hts _ hw2.2.2) (by rw [hR]; exact hdd) (by rw [hR]; show _ ≤ 60 * d; omega) (Nat.zero_le _) (Nat.zero_le _) hd ?_
  have e : (if iI a < iI b then iI a else iI b) = iI (min a b) := by
    simp only [iI_lt ha hb]
    split
    · rw [Int.min_eq_left (by omega)]
    · rw [Int.min_eq_right (by omega)]
  first
    | rw [e]
    | (have e2 : (if iI b < iI a then iI b else iI a) = iI (min a b) := by
        simp only [iI_lt hb ha]
        split
        · rw [Int.min_eq_right (by omega)]
        · rw [Int.min_eq_left (by omega)]
       rw [e2])
  exact kk H locs Ls hP hS hl
theorem aw_mabs {ix : Nat} {a : Int} (hO : KOk P Q K cc own nL d ret) (hd : decode cc pc = .ok (.invokestatic ix, 3)) (hn : pc + 3 = n) (hw : Cond.methodLink own ix Lib.Math.abs.name ∈ lw_g) (hw2 : Cond.static Lib.Math.abs.name ∈ lw_g ∧ Cond.initialized "java/lang/Math" ∈ lw_g ∧ Cond.code Lib.Math.abs.name Lib.Math.abs.code 1 (some .int) ∈ lw_g) (hdd : 1 ≤ d) (hnl : ls.length = nL) (hst : (st.map fun v => (cv (fun _ => 0) v).category).sum ≤ 8) (ha : InR a)
    (kk : AW K n ls (vI (if 0 ≤ a then a else -a) :: st) μ) : AW K pc ls (vI a :: st) μ := by
  subst hn
  intro H locs Ls hP hS hl
  have hts := hO.1.2.2.2.2
  have h8 := st_sum (q := K.q) hst
  have hR := hO.2.1.2.2.2.1
  refine va_mabs hO.1.1 hO.1.2.1 (by rw [hO.1.2.2.1, hl.1, hnl]) hO.1.2.2.2.1 (hts _ hw) (hts _ hw2.1) (hts _ hw2.2.1) (hts _ hw2.2.2) (by rw [hR]; exact hdd) (by rw [hR]; show _ ≤ 60 * d; omega) (Nat.zero_le _) (Nat.zero_le _) hd ?_
  have h0 : (0 : Int32) ≤ iI a ↔ 0 ≤ a := iI_le (a := 0) (inRlit _) ha
  have e2 : (if 0 ≤ iI a then iI a else 0 - iI a) = iI (if 0 ≤ a then a else -a) := by
    rw [show (0 : Int32) - iI a = iI (0 - a) from iI_sub 0 a]
    simp only [h0]
    split
    · rfl
    · congr 1
      omega
  rw [e2]
  exact kk H locs Ls hP hS hl
theorem aw_lmax {ix : Nat} {a b : Int} (hO : KOk P Q K cc own nL d ret) (hd : decode cc pc = .ok (.invokestatic ix, 3)) (hn : pc + 3 = n) (hw : Cond.methodLink own ix Lib.MathLoose.max_long.x ∈ lw_g) (hw2 : Cond.static Lib.MathLoose.max_long.x ∈ lw_g ∧ Cond.initialized "java/lang/Math" ∈ lw_g ∧ Cond.code Lib.MathLoose.max_long.x Lib.MathLoose.max_long.code 4 (some .long) ∈ lw_g) (hdd : 1 ≤ d) (hnl : ls.length = nL) (hst : (st.map fun v => (cv (fun _ => 0) v).category).sum ≤ 8) (ha : InL a) (hb : InL b)
    (kk : AW K n ls (vL (max a b) :: st) μ) : AW K pc ls (vL b :: vL a :: st) μ := by
  subst hn
  intro H locs Ls hP hS hl
  have hts := hO.1.2.2.2.2
  have h8 := st_sum (q := K.q) hst
  have hR := hO.2.1.2.2.2.1
  refine va_mmax_long hO.1.1 hO.1.2.1 (by rw [hO.1.2.2.1, hl.1, hnl]) hO.1.2.2.2.1 (hts _ hw) (hts _ hw2.1) (hts _ hw2.2.1) (hts _ hw2.2.2) (by rw [hR]; exact hdd) (by rw [hR]; show _ ≤ 60 * d; omega) (Nat.zero_le _) (Nat.zero_le _) hd ?_
  have e : (if lI b < lI a then lI a else lI b) = lI (max a b) := by
    simp only [lI_lt hb ha]
    split
    · rw [Int.max_eq_left (by omega)]
    · rw [Int.max_eq_right (by omega)]
  rw [e]
  exact kk H locs Ls hP hS hl
theorem aw_lmin {ix : Nat} {a b : Int} (hO : KOk P Q K cc own nL d ret) (hd : decode cc pc = .ok (.invokestatic ix, 3)) (hn : pc + 3 = n) (hw : Cond.methodLink own ix Lib.MathLoose.min_long.x ∈ lw_g) (hw2 : Cond.static Lib.MathLoose.min_long.x ∈ lw_g ∧ Cond.initialized "java/lang/Math" ∈ lw_g ∧ Cond.code Lib.MathLoose.min_long.x Lib.MathLoose.min_long.code 4 (some .long) ∈ lw_g) (hdd : 1 ≤ d) (hnl : ls.length = nL) (hst : (st.map fun v => (cv (fun _ => 0) v).category).sum ≤ 8) (ha : InL a) (hb : InL b)
    (kk : AW K n ls (vL (min a b) :: st) μ) : AW K pc ls (vL b :: vL a :: st) μ := by
  subst hn
  intro H locs Ls hP hS hl
  have hts := hO.1.2.2.2.2
  have h8 := st_sum (q := K.q) hst
  have hR := hO.2.1.2.2.2.1
  refine va_mmin_long hO.1.1 hO.1.2.1 (by rw [hO.1.2.2.1, hl.1, hnl]) hO.1.2.2.2.1 (hts _ hw) (hts _ hw2.1) (hts _ hw2.2.1) (hts _ hw2.2.2) (by rw [hR]; exact hdd) (by rw [hR]; show _ ≤ 60 * d; omega) (Nat.zero_le _) (Nat.zero_le _) hd ?_
  have e : (if lI b < lI a then lI b else lI a) = lI (min a b) := by
    simp only [lI_lt hb ha]
    split
    · rw [Int.min_eq_right (by omega)]
    · rw [Int.min_eq_left (by omega)]
  rw [e]
  exact kk H locs Ls hP hS hl
end
