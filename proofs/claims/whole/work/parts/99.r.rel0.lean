/-! ## the relation at the beginning -/
theorem nu0_k {k i : Nat} (h : k ≠ 0) : nu0.1 k i = 0 := by
  show (if k = 0 then _ else 0) = (0 : Int)
  rw [if_neg h]
theorem mu0_k {k i : Nat} (h : k ≠ 0) (h2 : k ≠ 77) : mu0.1 k i = 0 := by
  show (if k = 0 then _ else if k = 77 then _ else 0) = (0 : Int)
  rw [if_neg h, if_neg h2]
theorem nowOK0 : NowOK (fun _ => 0) := by
  unfold NowOK
  simp
theorem StR0 : StR 0 (fun _ => 0) (fun _ => 0) := by
  refine ⟨⟨⟨rfl, rfl, rfl, rfl, rfl, rfl, rfl, rfl⟩, fun _ _ => rfl, fun _ _ _ _ => rfl, fun _ _ => rfl, fun _ _ => rfl⟩, ⟨0, rfl, rfl, rfl, fun r hr => absurd hr (by simp)⟩, nowOK0, by decide, fun _ _ _ => rfl⟩
theorem mu0_r {k : Nat} (h : k ≠ 0) (h2 : k ≠ 77) : mu0.1 k = fun _ => 0 := funext fun _ => mu0_k h h2
theorem nu0_r {k : Nat} (h : k ≠ 0) : nu0.1 k = fun _ => 0 := funext fun _ => nu0_k h
theorem rel0 : Rel mu0 nu0 := by
  have z25 : nu0.1 0 25 = 0 := rfl
  have z26 : nu0.1 0 26 = 0 := rfl
  have hS : StR (nu0.1 0 25) (mu0.1 28) (nu0.1 17) := by
    rw [z25, mu0_r (by decide) (by decide), nu0_r (by decide)]
    exact StR0
  have hB : MB nu0 := by
    refine ⟨by decide, by decide, ⟨fun p _ k _ => ?_, fun p hp => ?_⟩, fun t ht => ?_, ?_, hS.2.2.1⟩
    · rw [nu0_k (by decide)]; decide
    · rw [z25] at hp; omega
    · rw [z26] at ht; omega
    · rw [nu0_r (by decide)]; decide
  refine ⟨⟨hB, ⟨⟨?_, ?_⟩, fun k _ => ?_, fun p k hp _ => ?_, fun t k ht _ => ?_⟩, hS⟩, ⟨⟨rfl, Or.inl rfl⟩, ⟨0, 0, by decide, by decide, ?_, rfl, ?_, fun r hr => absurd hr (Nat.not_lt_zero _)⟩⟩, ⟨0, by decide, rfl, rfl, fun j hj => absurd hj (Nat.not_lt_zero _), rfl, Or.inl ⟨rfl, rfl⟩⟩, ⟨0, by decide, ?_, rfl, fun p hp => absurd hp (Nat.not_lt_zero _)⟩, ⟨⟨by decide, fun k _ => ⟨?_, ?_, ?_⟩⟩, ?_, fun h => absurd z25 h⟩, rfl, by decide, fun i _ => ?_, fun i _ => ?_, by decide⟩
  · rw [mu0_k (by decide) (by decide)]; rfl
  · rw [mu0_k (by decide) (by decide)]; rfl
  · rw [mu0_k (by decide) (by decide), nu0_k (by decide)]
  · rw [z25] at hp; omega
  · rw [z26] at ht; omega
  · rw [mu0_k (by decide) (by decide)]; rfl
  · rw [mu0_k (by decide) (by decide)]; rfl
  · rw [mu0_k (by decide) (by decide)]; rfl
  · rw [nu0_k (by decide)]; decide
  · rw [nu0_k (by decide)]; decide
  · rw [nu0_k (by decide)]; decide
  · rw [mu0_k (by decide) (by decide)]; rfl
  · rw [mu0_k (by decide) (by decide), nu0_k (by decide)]
  · rw [nu0_k (by decide)]; decide
