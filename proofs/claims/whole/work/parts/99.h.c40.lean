/-! ## texts are taken (2): a town, as the reference takes it -/
section
variable {ν : Mm}
theorem tk3_fn {k : Nat} (h0 : k ≠ 0) (h1 : k ≠ 14) (h2 : k ≠ 15) (h3 : k ≠ 16) : (tk3 ν).1 k = ν.1 k := funext fun i => by
  unfold tk3 tk2 tk1 tk0
  rw [mcp_nk h3, mcp_nk h2, mcp_nk h1, mst_nk h0, mst_nk h0]
theorem tk3_0 {i : Nat} (h1 : i ≠ 25) (h2 : i ≠ 26) : (tk3 ν).1 0 i = ν.1 0 i := by
  unfold tk3 tk2 tk1 tk0
  rw [mcp_nk (by decide), mcp_nk (by decide), mcp_nk (by decide), mst_ni h2, mst_ni h1]
theorem takM_fn {k : Nat} (h0 : k ≠ 0) (h1 : k ≠ 14) (h2 : k ≠ 15) (h3 : k ≠ 16) (h4 : k ≠ 17) : (takM ν).1 k = ν.1 k := funext fun i => by
  unfold takM tk5 tk4
  rw [mst_nk h0, mst_nk h0, mst_nk h0, mst_nk h4, mrow_nk h4, mrow_nk h4, tk3_fn h0 h1 h2 h3]
theorem takM_0 {i : Nat} (h1 : i ≠ 25) (h2 : i ≠ 26) (h3 : i ≠ 41) (h4 : i ≠ 35) (h5 : i ≠ 45) : (takM ν).1 0 i = ν.1 0 i := by
  unfold takM tk5 tk4
  rw [mst_ni h5, mst_ni h4, mst_ni h3, mst_nk (by decide), mrow_nk (by decide), mrow_nk (by decide), tk3_0 h1 h2]
theorem takM_35 : (takM ν).1 0 35 = 0 := by unfold takM; rw [mst_ni (by decide), mst_eq]
theorem takM_41 : (takM ν).1 0 41 = 0 := by unfold takM; rw [mst_ni (by decide), mst_ni (by decide), mst_eq]
theorem takM_45 : (takM ν).1 0 45 = 0 := by unfold takM; rw [mst_eq]
theorem takM_26 : (takM ν).1 0 26 = ν.1 0 21 := by
  unfold takM tk5
  rw [mst_ni (by decide), mst_ni (by decide), mst_ni (by decide), mst_nk (by decide), mrow_nk (by decide), tk4_26]
theorem tk4_k {k i : Nat} (h : k ≠ 17) : (tk4 ν).1 k i = (tk3 ν).1 k i := by unfold tk4; rw [mrow_nk h]
theorem takM_k {k i : Nat} (h0 : k ≠ 0) (h : k ≠ 17) : (takM ν).1 k i = (tk3 ν).1 k i := by
  unfold takM tk5
  rw [mst_nk h0, mst_nk h0, mst_nk h0, mst_nk h, mrow_nk h, tk4_k h]
theorem takM_14 {i : Nat} (h : i < 4) : (takM ν).1 14 i = ν.1 11 i := by
  rw [takM_k (by decide) (by decide)]
  unfold tk3 tk2 tk1 tk0
  rw [mcp_nk (by decide), mcp_nk (by decide), mcp_in (by omega) (by omega), mst_nk (by decide), mst_nk (by decide), Nat.zero_add, Nat.sub_zero]
theorem takM_15 {i : Nat} (h : i < 24) : (takM ν).1 15 i = ν.1 12 i := by
  rw [takM_k (by decide) (by decide)]
  unfold tk3 tk2 tk1 tk0
  rw [mcp_nk (by decide), mcp_in (by omega) (by omega), mcp_nk (by decide), mst_nk (by decide), mst_nk (by decide), Nat.zero_add, Nat.sub_zero]
theorem takM_16 {i : Nat} (h : i < 15) : (takM ν).1 16 i = ν.1 13 i := by
  rw [takM_k (by decide) (by decide)]
  unfold tk3 tk2 tk1 tk0
  rw [mcp_in (by omega) (by omega), mcp_nk (by decide), mcp_nk (by decide), mst_nk (by decide), mst_nk (by decide), Nat.zero_add, Nat.sub_zero]
theorem takM_17 {i : Nat} (hi : i < 218) (hT : (ν.1 0 21).toNat ≤ 5) : (takM ν).1 17 i = if i = 33 then ν.1 11 3 else if 24 ≤ i ∧ i < 24 + (ν.1 0 21).toNat then ν.1 13 (3 * (i - 24) + 1) else 0 := by
  have e14 : (tk5 ν).1 14 3 = ν.1 11 3 := by
    have := takM_14 (ν := ν) (i := 3) (by decide)
    rw [takM_k (by decide) (by decide)] at this
    unfold tk5
    rw [mrow_nk (by decide), tk4_k (by decide)]
    exact this
  unfold takM
  rw [mst_nk (by decide), mst_nk (by decide), mst_nk (by decide), mst_fu, e14]
  unfold fu
  try dsimp only
  by_cases e : i = 33
  · rw [if_pos e, if_pos e]
  · rw [if_neg e, if_neg e]
    unfold tk5
    rw [mrow_at]
    unfold askF
    try dsimp only
    by_cases e2 : 24 ≤ i ∧ i < 24 + (ν.1 0 21).toNat
    · rw [if_pos e2, if_pos e2]
      have := takM_16 (ν := ν) (i := 3 * (i - 24) + 1) (by omega)
      rw [takM_k (by decide) (by decide)] at this
      rw [tk4_k (by decide)]
      exact this
    · rw [if_neg e2, if_neg e2]
      unfold tk4
      rw [mrow_at]
      unfold zerF
      rw [if_pos hi]
end
theorem row_s {r : Nat → Int} (h : rowOk 115 r) : (0 ≤ r 0 ∧ r 0 ≤ 9) ∧ (0 ≤ r 1 ∧ r 1 ≤ 9) ∧ (0 ≤ r 2 ∧ r 2 ≤ 9) ∧ (0 ≤ r 3 ∧ r 3 ≤ 99) := ⟨h 0 (by decide), h 1 (by decide), h 2 (by decide), h 3 (by decide)⟩
theorem row_p {r : Nat → Int} (h : rowOk 112 r) : (0 ≤ r 0 ∧ r 0 ≤ 9) ∧ (0 ≤ r 1 ∧ r 1 ≤ 9) ∧ (0 ≤ r 2 ∧ r 2 ≤ 9) ∧ (0 ≤ r 3 ∧ r 3 ≤ 20) := ⟨h 0 (by decide), h 1 (by decide), h 2 (by decide), h 3 (by decide)⟩
theorem row_t {r : Nat → Int} (h : rowOk 116 r) : (0 ≤ r 0 ∧ r 0 ≤ 2) ∧ (0 ≤ r 1 ∧ r 1 ≤ 9) ∧ (0 ≤ r 2 ∧ r 2 ≤ 9) := ⟨h 0 (by decide), h 1 (by decide), ⟨by have : (1 : Int) ≤ r 2 := (h 2 (by decide)).1; omega, (h 2 (by decide)).2⟩⟩
theorem takM_MB {ν : Mm} {s : Tw} (hT : TM ν s) (hW : TwOk s) (hRG : RG ν) : MB (takM ν) := by
  obtain ⟨t1, ⟨t2, t3⟩, t4, t5⟩ := hT
  obtain ⟨w1, ⟨w2, w3⟩, w4, w5⟩ := hW
  have r1 := row_s w1
  have e11 : ∀ k, k < 4 → (takM ν).1 14 k = s.1.2 k := fun k hk => by rw [takM_14 hk]; exact t1 k hk
  have e16 : ∀ t k, t < s.2.2.1 → k < 3 → (takM ν).1 16 (3 * t + k) = s.2.2.2 t k := fun t k ht hk => by rw [takM_16 (by omega)]; exact t5 t ht k hk
  have e15 : ∀ p k, p < s.2.1.1 → k < 4 → (takM ν).1 15 (4 * p + k) = s.2.1.2 p k := fun p k hp hk => by rw [takM_15 (by omega)]; exact t4 p hp k hk
  have f17 : ∀ i, i < 218 → (takM ν).1 17 i = if i = 33 then s.1.2 3 else if 24 ≤ i ∧ i < 24 + s.2.2.1 then s.2.2.2 (i - 24) 1 else 0 := fun i hi => by
    rw [takM_17 hi (by omega), t1 3 (by decide), show (ν.1 0 21).toNat = s.2.2.1 by omega]
    by_cases e1 : i = 33
    · rw [if_pos e1, if_pos e1]
    · rw [if_neg e1, if_neg e1]
      by_cases e2 : 24 ≤ i ∧ i < 24 + s.2.2.1
      · rw [if_pos e2, if_pos e2]; exact t5 (i - 24) (by omega) 1 (by decide)
      · rw [if_neg e2, if_neg e2]
  have z : ∀ i, i < 218 → i ≠ 33 → (i < 24 ∨ 29 ≤ i) → (takM ν).1 17 i = 0 := fun i hi h3 h4 => by rw [f17 i hi, if_neg h3, if_neg (by omega)]
  refine ⟨by rw [takM_25]; omega, by rw [takM_26]; omega, ⟨fun p hp k hk => by rw [takM_15 (by omega)]; exact hRG _ (by omega), fun p hp => ?_⟩, fun t ht => ?_, by rw [e11 0 (by decide), e11 1 (by decide), e11 2 (by decide), e11 3 (by decide)]; exact r1, ?_⟩
  · rw [takM_25] at hp
    have := row_p (w3 p (by omega))
    rw [show 4 * p = 4 * p + 0 from rfl, e15 p 0 (by omega) (by decide), e15 p 1 (by omega) (by decide), e15 p 2 (by omega) (by decide), e15 p 3 (by omega) (by decide)]
    exact this
  · rw [takM_26] at ht
    have := row_t (w5 t (by omega))
    rw [show 3 * t = 3 * t + 0 from rfl, e16 t 0 (by omega) (by decide), e16 t 1 (by omega) (by decide), e16 t 2 (by omega) (by decide)]
    exact this
  · refine ⟨fun p hp => ?_, fun j hj => ?_, fun p hp => ?_, fun t ht => ?_, ?_, ?_, ?_, ?_, ?_, ?_, ?_, ?_, ?_⟩
    · rw [z p (by omega) (by omega) (by omega)]; omega
    · rw [z _ (by omega) (by omega) (by omega)]; omega
    · rw [z _ (by omega) (by omega) (by omega)]; omega
    · rw [f17 _ (by omega), if_neg (by omega)]
      by_cases e : 24 ≤ 24 + t ∧ 24 + t < 24 + s.2.2.1
      · rw [if_pos e, show 24 + t - 24 = t by omega]; exact (row_t (w5 t (by omega))).2.1
      · rw [if_neg e]; omega
    · rw [z _ (by omega) (by omega) (by omega)]; omega
    · rw [z _ (by omega) (by omega) (by omega)]; omega
    · rw [z _ (by omega) (by omega) (by omega)]; omega
    · rw [z _ (by omega) (by omega) (by omega)]; omega
    · rw [f17 _ (by omega), if_pos rfl]; have := r1.2.2.2; omega
    · rw [z 34 (by omega) (by omega) (by omega), z 36 (by omega) (by omega) (by omega)]; omega
    · rw [z 35 (by omega) (by omega) (by omega), z 36 (by omega) (by omega) (by omega)]; omega
    · rw [z _ (by omega) (by omega) (by omega)]; omega
    · rw [z _ (by omega) (by omega) (by omega)]; omega
