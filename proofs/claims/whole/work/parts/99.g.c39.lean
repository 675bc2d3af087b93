/-! ## texts are taken (1) -/
theorem Rel.fail {μ ν m n : Mm} (h : Rel μ ν) (hC0 : QF μ m) {c : Nat} (hc : ν.1 0 13 ≤ (c : Int)) (hRG : RG n) (hF : Fr (sF c) ν n) (h14 : 0 ≤ n.1 0 14 ∧ n.1 0 14 ≤ 4) : Rel m n := by
  obtain ⟨hC, h22⟩ := hC0
  unfold frC at hC
  have hR : Fq (fun k i => (k = 0 ∧ (i = 3 ∨ i = 4 ∨ i = 5 ∨ i = 14 ∨ i = 20 ∨ i = 21)) ∨ k = 11 ∨ k = 12 ∨ k = 13 ∨ ((k = 2 ∨ k = 3) ∧ 520 * c ≤ i ∧ i < 520 * c + 520) ∨ ((k = 4 ∨ k = 5) ∧ i = c) ∨ ((k = 6 ∨ k = 7 ∨ k = 8) ∧ 140 * c ≤ i ∧ i < 140 * c + 140)) ν n := hF.q.mono (fun k i e => by unfold sF sT sL sS at e; omega)
  have hN : NumR m n := ⟨by rw [hC 0 15 (by omega), hR 0 30 (by omega)]; exact h.N.1, by rw [hR 0 30 (by omega)]; exact h.N.2.1, fun i hi => by rw [hC 85 i (by omega), hR 18 i (by omega)]; exact h.N.2.2.1 i hi, hRG, h14⟩
  refine ⟨⟨fqB h.B hR ?_ ?_ ?_ ?_ ?_ ?_, fqT h.T hC hR ?_ ?_ ?_ ?_ ?_ ?_ ?_, fqS h.S hC hR ?_ ?_ ?_⟩, ⟨fqI h.I hC hR ?_ ?_ ?_ ?_ ?_, fqA h.A hC hR ?_ ?_ ?_ ?_ ?_ ?_⟩, fqL h.L hC hR h22 ?_ ?_ (fun j hj => ⟨?_, fun i => ?_⟩) ?_ ?_ (fun c hc hcc j hj => ⟨fun i h1 h2 => ⟨?_, ?_⟩, ?_, ?_, fun i h1 h2 => ⟨?_, ?_, ?_⟩⟩), fqP h.P hC hR ?_ ?_ ?_ ?_, fqG h.G hC hR ?_ ?_ ?_ ?_ ?_ ?_ ?_ ?_ ?_, hN⟩
  all_goals (intros; omega)
theorem Rel.lawIn {μ ν m n : Mm} (h : Rel μ ν) {c : Nat} (hc : ν.1 0 13 = (c : Int)) (hc4 : c < 4) {l : List Cl} (hl : (cmpL 0 l).length ≤ 240 ∧ ∀ x ∈ l, WC x) (hl2 : (cat l).length ≤ 520 ∧ l.length ≤ 140) {m1 n1 : Mm} (hm1 : Fr lS μ m1) (hD : Dr m1 (cmpL 0 l)) (hm : m = mst (mst (mst (mcp m1 (13 + 3 * c + 1) 10 0 0 (cmpL 0 l).length) (13 + 3 * c) 2 (((cmpL 0 l).length : Nat) : Int)) 1 2 0) 0 13 ((c : Int) + 1)) (hF : Fr (sL c) ν n1) (h14 : n1.1 0 14 = (c : Int)) (hCF : CF n1 c l) (hRow : Row n1 c (cat l)) (hn : n = mst (mst n1 0 2 0) 0 13 ((c : Int) + 1)) : Rel m n := by
  have hC : Fq (fun k i => (frC k i ∨ (k = 1 ∧ i = 2)) ∨ (k = 13 + 3 * c ∧ i = 2) ∨ k = 13 + 3 * c + 1 ∨ (k = 0 ∧ i = 13)) μ m := by
    rw [hm]
    exact ((((hm1.q.mono (fun k i e => by unfold lS dS tS at e; unfold frC; omega)).cp (fun _ => by omega)).st (by omega) _).st (by omega) _).st (by omega) _
  unfold frC at hC
  have hR : Fq (fun k i => (k = 0 ∧ (i = 3 ∨ i = 4 ∨ i = 5 ∨ i = 14 ∨ i = 20 ∨ i = 21 ∨ i = 2 ∨ i = 13)) ∨ k = 11 ∨ k = 12 ∨ k = 13 ∨ ((k = 2 ∨ k = 3) ∧ 520 * c ≤ i ∧ i < 520 * c + 520) ∨ ((k = 4 ∨ k = 5) ∧ i = c) ∨ ((k = 6 ∨ k = 7 ∨ k = 8) ∧ 140 * c ≤ i ∧ i < 140 * c + 140)) ν n := by
    rw [hn]
    exact ((hF.q.mono (fun k i e => by unfold sL sS at e; omega)).st (by omega) _).st (by omega) _
  have h22 : m.2.2 = μ.2.2 := by rw [hm]; show m1.2.2 = _; rw [hm1.2]
  have n1k : ∀ k i, k ≠ 0 → n.1 k i = n1.1 k i := fun k i hk => by rw [hn, mst_nk hk, mst_nk hk]
  have hN : NumR m n := ⟨by rw [hC 0 15 (by omega), hR 0 30 (by omega)]; exact h.N.1, by rw [hR 0 30 (by omega)]; exact h.N.2.1, fun i hi => by rw [hC 85 i (by omega), hR 18 i (by omega)]; exact h.N.2.2.1 i hi, fun i hi => by rw [n1k 12 i (by decide), hF.1 12 i (by unfold sL sS; omega)]; exact h.N.2.2.2.1 i hi, by rw [hn, mst_ni (by decide), mst_ni (by decide), h14]; omega⟩
  have hP : TapR m n := ⟨0, by decide, by rw [hm, mst_nk (by decide), mst_eq]; rfl, by rw [hn, mst_ni (by decide), mst_eq]; rfl, fun p hp => absurd hp (Nat.not_lt_zero _)⟩
  have hL : LawsR m n := by
    obtain ⟨c', hc', q1, q2, q3, q4, q5⟩ := h.L
    have hcc : c' = c := by omega
    subst hcc
    refine ⟨c' + 1, by omega, by rw [hm, mst_eq]; omega, by rw [hn, mst_eq]; omega, fun j hj => ?_, by rw [hC 0 14 (by omega), hR 0 29 (by omega)]; exact q4, ?_⟩
    · by_cases e : j = c'
      · subst e
        refine ⟨l, ⟨?_, ?_, hl.1, hl.2⟩, ⟨hCF.fr (funext fun i => n1k 5 i (by decide)) (funext fun i => n1k 6 i (by decide)) (funext fun i => n1k 7 i (by decide)) (funext fun i => n1k 8 i (by decide)), hRow.off (n1k 4 j (by decide)) (funext fun i => n1k 2 i (by decide)) (funext fun i => n1k 3 i (by decide)), hl2.1, hl2.2, hl.2⟩⟩
        · rw [hm, mst_nk (by omega), mst_nk (by omega), mst_eq]
        · refine hD.2.of (fun i _ hi => ?_)
          rw [Nat.zero_add] at hi
          rw [hm, mst_nk (by omega), mst_nk (by omega), mst_nk (by omega), mcp_in (by omega) (by omega), Nat.zero_add, Nat.sub_zero]
      · obtain ⟨l', l1, l2⟩ := q3 j (by omega)
        refine ⟨l', l1.fr (hC _ _ (by omega)) (hC.fn (fun i => by omega)), ?_⟩
        obtain ⟨⟨w1, w2⟩, ⟨w3, w4⟩, w5, w6, w7⟩ := l2
        refine ⟨⟨by rw [hR _ _ (by omega)]; exact w1, fun i cc hi => ?_⟩, ⟨by rw [hR _ _ (by omega)]; exact w3, fun i hi => ?_⟩, w5, w6, w7⟩
        · have hlt : i < l'.length := (List.getElem?_eq_some_iff.mp hi).1
          rw [hR _ _ (by omega), hR _ _ (by omega), hR _ _ (by omega)]
          exact w2 i cc hi
        · rw [hR _ _ (by omega), hR _ _ (by omega)]
          exact w4 i hi
    · rw [hR 0 29 (by omega), h22]
      rcases q5 with e | ⟨j, hj, e1, e2⟩
      · exact Or.inl e
      · exact Or.inr ⟨j, by omega, e1, e2⟩
  refine ⟨⟨fqB h.B hR ?_ ?_ ?_ ?_ ?_ ?_, fqT h.T hC hR ?_ ?_ ?_ ?_ ?_ ?_ ?_, fqS h.S hC hR ?_ ?_ ?_⟩, ⟨fqI h.I hC hR ?_ ?_ ?_ ?_ ?_, fqA h.A hC hR ?_ ?_ ?_ ?_ ?_ ?_⟩, hL, hP, fqG h.G hC hR ?_ ?_ ?_ ?_ ?_ ?_ ?_ ?_ ?_, hN⟩
  all_goals (intros; omega)
