/-! ## what the class is told (1) -/
theorem Fq.st {S : Nat → Nat → Prop} {μ m : Mm} {k i : Nat} (h : Fq S μ m) (hs : S k i) (v : Int) : Fq S μ (mst m k i v) := fun k' i' hn => by
  by_cases e : k' = k
  · by_cases e2 : i' = i
    · subst e; subst e2; exact absurd hs hn
    · rw [mst_ni e2]; exact h k' i' hn
  · rw [mst_nk e]; exact h k' i' hn
theorem Fq.cp {S : Nat → Nat → Prop} {μ m : Mm} {d s a b c : Nat} (h : Fq S μ m) (hs : ∀ i, S d i) : Fq S μ (mcp m d s a b c) := fun k' i' hn => by
  by_cases e : k' = d
  · subst e; exact absurd (hs i') hn
  · rw [mcp_nk e]; exact h k' i' hn
theorem Fq.rw {S : Nat → Nat → Prop} {μ m : Mm} {k : Nat} {f : Nat → Int} (h : Fq S μ m) (hs : ∀ i, S k i) : Fq S μ (mrow m k f) := fun k' i' hn => by
  by_cases e : k' = k
  · subst e; exact absurd (hs i') hn
  · rw [mrow_nk e]; exact h k' i' hn
theorem fqB2 {R : Nat → Nat → Prop} {ν n : Mm} (h : MB ν) (hR : Fq R ν n) (hN : NowOK (n.1 17)) (h1 : ¬ R 0 25) (h2 : ¬ R 0 26) (h3 : ∀ i, ¬ R 14 i) (h4 : ∀ i, ¬ R 15 i) (h5 : ∀ i, ¬ R 16 i) : MB n := by
  unfold MB at *
  rw [hR _ _ h1, hR _ _ h2, hR.fn h3, hR.fn h4, hR.fn h5]
  exact ⟨h.1, h.2.1, h.2.2.1, h.2.2.2.1, h.2.2.2.2.1, hN⟩
theorem Rel.law {μ ν m n : Mm} (h : Rel μ ν) {v : Int} {c : Nat} (hc : ν.1 0 13 = (c : Int)) (hv : (v = -1 ∧ m.2.2 = none) ∨ ∃ j : Nat, j < c ∧ v = (j : Int) ∧ m.2.2 = some (13 + 3 * j)) (e1 : m.1 = (mst μ 0 14 v).1) (e2 : n = mst ν 0 29 v) : Rel m n := by
  have hC : Fq (fun k i => k = 0 ∧ i = 14) μ m := fun k i hn => by rw [e1]; exact (Fq.rf (S := fun k i => k = 0 ∧ i = 14)).st ⟨rfl, rfl⟩ v k i hn
  have hR : Fq (fun k i => k = 0 ∧ i = 29) ν n := by rw [e2]; exact Fq.rf.st ⟨rfl, rfl⟩ v
  obtain ⟨c', hc', q1, q2, q3, q4, q5⟩ := h.L
  have hcc : c' = c := by omega
  subst hcc
  have hL : LawsR m n := by
    refine ⟨c', hc', by rw [hC 0 13 (by decide)]; exact q1, by rw [hR 0 13 (by decide)]; exact q2, fun j hj => ?_, by rw [e1, e2, mst_eq, mst_eq], by rw [e2, mst_eq]; exact hv⟩
    obtain ⟨l, l1, l2⟩ := q3 j hj
    refine ⟨l, l1.fr (hC _ _ (by omega)) (hC.fn (by omega)), ?_⟩
    obtain ⟨w1, ⟨w2, w3⟩, w4⟩ := l2
    exact ⟨w1.fr (hR.fn (by omega)) (hR.fn (by omega)) (hR.fn (by omega)) (hR.fn (by omega)), ⟨by rw [hR _ _ (by omega)]; exact w2, by rw [hR.fn (by omega), hR.fn (by omega)]; exact w3⟩, w4⟩
  refine ⟨⟨fqB h.B hR ?_ ?_ ?_ ?_ ?_ ?_, fqT h.T hC hR ?_ ?_ ?_ ?_ ?_ ?_ ?_, fqS h.S hC hR ?_ ?_ ?_⟩, ⟨fqI h.I hC hR ?_ ?_ ?_ ?_ ?_, fqA h.A hC hR ?_ ?_ ?_ ?_ ?_ ?_⟩, hL, fqP h.P hC hR ?_ ?_ ?_ ?_, fqG h.G hC hR ?_ ?_ ?_ ?_ ?_ ?_ ?_ ?_ ?_, fqN h.N hC hR ?_ ?_ ?_ ?_ ?_ ?_⟩
  all_goals (intros; omega)
theorem Rel.fate {μ ν : Mm} (h : Rel μ ν) {v : Int} (hv : 0 ≤ v ∧ v ≤ 9) : Rel (mst μ 0 15 v) (mst ν 0 30 v) := by
  have hC : Fq (fun k i => k = 0 ∧ i = 15) μ (mst μ 0 15 v) := Fq.rf.st ⟨rfl, rfl⟩ v
  have hR : Fq (fun k i => k = 0 ∧ i = 30) ν (mst ν 0 30 v) := Fq.rf.st ⟨rfl, rfl⟩ v
  have hN : NumR (mst μ 0 15 v) (mst ν 0 30 v) := ⟨by rw [mst_eq, mst_eq], by rw [mst_eq]; exact hv, fun i hi => by rw [mst_nk (by decide), mst_nk (by decide)]; exact h.N.2.2.1 i hi, fun i hi => by rw [mst_nk (by decide)]; exact h.N.2.2.2.1 i hi, by rw [mst_ni (by decide)]; exact h.N.2.2.2.2⟩
  refine ⟨⟨fqB h.B hR ?_ ?_ ?_ ?_ ?_ ?_, fqT h.T hC hR ?_ ?_ ?_ ?_ ?_ ?_ ?_, fqS h.S hC hR ?_ ?_ ?_⟩, ⟨fqI h.I hC hR ?_ ?_ ?_ ?_ ?_, fqA h.A hC hR ?_ ?_ ?_ ?_ ?_ ?_⟩, fqL h.L hC hR rfl ?_ ?_ (fun j hj => ⟨?_, fun i => ?_⟩) ?_ ?_ (fun c hc hcc j hj => ⟨fun i h1 h2 => ⟨?_, ?_⟩, ?_, ?_, fun i h1 h2 => ⟨?_, ?_, ?_⟩⟩), fqP h.P hC hR ?_ ?_ ?_ ?_, fqG h.G hC hR ?_ ?_ ?_ ?_ ?_ ?_ ?_ ?_ ?_, hN⟩
  all_goals (intros; omega)
theorem Rel.refuse {μ ν : Mm} (h : Rel μ ν) {j : Nat} (hj : j < 5) : Rel (mst μ 85 j (μ.1 85 j + 1)) (mst ν 18 j (ν.1 18 j + 1)) := by
  have hC : Fq (fun k i => k = 85) μ (mst μ 85 j (μ.1 85 j + 1)) := Fq.rf.st (S := fun k _ => k = 85) rfl _
  have hR : Fq (fun k i => k = 18) ν (mst ν 18 j (ν.1 18 j + 1)) := Fq.rf.st (S := fun k _ => k = 18) rfl _
  have hN : NumR (mst μ 85 j (μ.1 85 j + 1)) (mst ν 18 j (ν.1 18 j + 1)) := by
    refine ⟨by rw [mst_nk (by decide), mst_nk (by decide)]; exact h.N.1, by rw [mst_nk (by decide)]; exact h.N.2.1, fun i hi => ?_, fun i hi => by rw [mst_nk (by decide)]; exact h.N.2.2.2.1 i hi, by rw [mst_nk (by decide)]; exact h.N.2.2.2.2⟩
    by_cases e : i = j
    · subst e; rw [mst_eq, mst_eq, h.N.2.2.1 i hi]
    · rw [mst_ni e, mst_ni e]; exact h.N.2.2.1 i hi
  refine ⟨⟨fqB h.B hR ?_ ?_ ?_ ?_ ?_ ?_, fqT h.T hC hR ?_ ?_ ?_ ?_ ?_ ?_ ?_, fqS h.S hC hR ?_ ?_ ?_⟩, ⟨fqI h.I hC hR ?_ ?_ ?_ ?_ ?_, fqA h.A hC hR ?_ ?_ ?_ ?_ ?_ ?_⟩, fqL h.L hC hR rfl ?_ ?_ (fun j hj => ⟨?_, fun i => ?_⟩) ?_ ?_ (fun c hc hcc j hj => ⟨fun i h1 h2 => ⟨?_, ?_⟩, ?_, ?_, fun i h1 h2 => ⟨?_, ?_, ?_⟩⟩), fqP h.P hC hR ?_ ?_ ?_ ?_, fqG h.G hC hR ?_ ?_ ?_ ?_ ?_ ?_ ?_ ?_ ?_, hN⟩
  all_goals (intros; omega)
theorem Rel.tape {μ ν m n : Mm} (h : Rel μ ν) (hC : Fq (fun k i => (k = 1 ∧ i = 2) ∨ k = 2) μ m) (hR : Fq (fun k i => (k = 0 ∧ i = 2) ∨ k = 1) ν n) (h22 : m.2.2 = μ.2.2) (hP : TapR m n) : Rel m n := by
  refine ⟨⟨fqB h.B hR ?_ ?_ ?_ ?_ ?_ ?_, fqT h.T hC hR ?_ ?_ ?_ ?_ ?_ ?_ ?_, fqS h.S hC hR ?_ ?_ ?_⟩, ⟨fqI h.I hC hR ?_ ?_ ?_ ?_ ?_, fqA h.A hC hR ?_ ?_ ?_ ?_ ?_ ?_⟩, fqL h.L hC hR h22 ?_ ?_ (fun j hj => ⟨?_, fun i => ?_⟩) ?_ ?_ (fun c hc hcc j hj => ⟨fun i h1 h2 => ⟨?_, ?_⟩, ?_, ?_, fun i h1 h2 => ⟨?_, ?_, ?_⟩⟩), hP, fqG h.G hC hR ?_ ?_ ?_ ?_ ?_ ?_ ?_ ?_ ?_, fqN h.N hC hR ?_ ?_ ?_ ?_ ?_ ?_⟩
  all_goals (intros; omega)
theorem Rel.image {μ ν : Mm} (h : Rel μ ν) : Rel (mst (mcp μ 30 28 0 0 98) 0 16 1) (mst (mcp ν 24 17 0 0 218) 0 45 1) := by
  have hC : Fq (fun k i => k = 30 ∨ (k = 0 ∧ i = 16)) μ (mst (mcp μ 30 28 0 0 98) 0 16 1) := (Fq.rf.cp (fun _ => Or.inl rfl)).st (Or.inr ⟨rfl, rfl⟩) _
  have hR : Fq (fun k i => k = 24 ∨ (k = 0 ∧ i = 45)) ν (mst (mcp ν 24 17 0 0 218) 0 45 1) := (Fq.rf.cp (fun _ => Or.inl rfl)).st (Or.inr ⟨rfl, rfl⟩) _
  have hI : ImgR (mst (mcp μ 30 28 0 0 98) 0 16 1) (mst (mcp ν 24 17 0 0 218) 0 45 1) := by
    refine ⟨by rw [mst_eq, mst_eq], Or.inr ⟨mst_eq, ?_⟩⟩
    rw [hR 0 25 (by decide)]
    exact h.S.cg (fun i hi => by rw [mst_nk (by decide), mcp_in (by omega) (by omega), Nat.zero_add, Nat.sub_zero]) (fun i hi => by rw [mst_nk (by decide), mcp_in (by omega) (by omega), Nat.zero_add, Nat.sub_zero])
  refine ⟨⟨fqB h.B hR ?_ ?_ ?_ ?_ ?_ ?_, fqT h.T hC hR ?_ ?_ ?_ ?_ ?_ ?_ ?_, fqS h.S hC hR ?_ ?_ ?_⟩, ⟨hI, fqA h.A hC hR ?_ ?_ ?_ ?_ ?_ ?_⟩, fqL h.L hC hR rfl ?_ ?_ (fun j hj => ⟨?_, fun i => ?_⟩) ?_ ?_ (fun c hc hcc j hj => ⟨fun i h1 h2 => ⟨?_, ?_⟩, ?_, ?_, fun i h1 h2 => ⟨?_, ?_, ?_⟩⟩), fqP h.P hC hR ?_ ?_ ?_ ?_, fqG h.G hC hR ?_ ?_ ?_ ?_ ?_ ?_ ?_ ?_ ?_, fqN h.N hC hR ?_ ?_ ?_ ?_ ?_ ?_⟩
  all_goals (intros; omega)
theorem Rel.state {μ ν m n : Mm} (h : Rel μ ν) (hC : Fq (fun k i => frC k i ∨ k = 28) μ m) (hR : Fq (fun k i => scr k i ∨ k = 17) ν n) (h22 : m.2.2 = μ.2.2) (hS : StR (ν.1 0 25) (m.1 28) (n.1 17)) : Rel m n := by
  unfold frC at hC
  unfold scr at hR
  have hS2 : StR (n.1 0 25) (m.1 28) (n.1 17) := by rw [hR 0 25 (by omega)]; exact hS
  refine ⟨⟨fqB2 h.B hR hS.2.2.1 ?_ ?_ ?_ ?_ ?_, fqT h.T hC hR ?_ ?_ ?_ ?_ ?_ ?_ ?_, hS2⟩, ⟨fqI h.I hC hR ?_ ?_ ?_ ?_ ?_, fqA h.A hC hR ?_ ?_ ?_ ?_ ?_ ?_⟩, fqL h.L hC hR h22 ?_ ?_ (fun j hj => ⟨?_, fun i => ?_⟩) ?_ ?_ (fun c hc hcc j hj => ⟨fun i h1 h2 => ⟨?_, ?_⟩, ?_, ?_, fun i h1 h2 => ⟨?_, ?_, ?_⟩⟩), fqP h.P hC hR ?_ ?_ ?_ ?_, fqG h.G hC hR ?_ ?_ ?_ ?_ ?_ ?_ ?_ ?_ ?_, fqN h.N hC hR ?_ ?_ ?_ ?_ ?_ ?_⟩
  all_goals (intros; omega)
theorem Rel.act {μ ν m n : Mm} (h : Rel μ ν) (hC : Fq (fun k i => k = 28 ∨ k = 31 ∨ (33 ≤ k ∧ k < 73)) μ m) (hR : Fq (fun k i => k = 17 ∨ k = 19 ∨ (k = 0 ∧ i = 35)) ν n) (h22 : m.2.2 = μ.2.2) (hS : StR (ν.1 0 25) (m.1 28) (n.1 17)) (hA : ActR m n) : Rel m n := by
  have hS2 : StR (n.1 0 25) (m.1 28) (n.1 17) := by rw [hR 0 25 (by omega)]; exact hS
  refine ⟨⟨fqB2 h.B hR hS.2.2.1 ?_ ?_ ?_ ?_ ?_, fqT h.T hC hR ?_ ?_ ?_ ?_ ?_ ?_ ?_, hS2⟩, ⟨fqI h.I hC hR ?_ ?_ ?_ ?_ ?_, hA⟩, fqL h.L hC hR h22 ?_ ?_ (fun j hj => ⟨?_, fun i => ?_⟩) ?_ ?_ (fun c hc hcc j hj => ⟨fun i h1 h2 => ⟨?_, ?_⟩, ?_, ?_, fun i h1 h2 => ⟨?_, ?_, ?_⟩⟩), fqP h.P hC hR ?_ ?_ ?_ ?_, fqG h.G hC hR ?_ ?_ ?_ ?_ ?_ ?_ ?_ ?_ ?_, fqN h.N hC hR ?_ ?_ ?_ ?_ ?_ ?_⟩
  all_goals (intros; omega)
def kpC (μ : Mm) (x : Nat) : Mm := mst (mst (mcp μ (33 + x) 28 0 0 98) 31 2 (((x + 1) % 40 : Nat) : Int)) 31 1 (min 40 (μ.1 31 1 + 1))
theorem Rel.keep {μ ν : Mm} (h : Rel μ ν) {x : Nat} (hx : μ.1 31 2 = (x : Int)) : Rel (kpC μ x) (kepM ν) := by
  obtain ⟨a, x', ha, hx', e1, e2, e3, e4⟩ := h.A
  have hxx : x' = x := by omega
  subst hxx
  have hC : Fq (fun k i => k = 28 ∨ k = 31 ∨ (33 ≤ k ∧ k < 73)) μ (kpC μ x') := ((Fq.rf.cp (fun _ => Or.inr (Or.inr ⟨by omega, by omega⟩))).st (Or.inr (Or.inl rfl)) _).st (Or.inr (Or.inl rfl)) _
  have hR : Fq (fun k i => k = 17 ∨ k = 19 ∨ (k = 0 ∧ i = 35)) ν (kepM ν) := (Fq.rf.rw (fun _ => Or.inr (Or.inl rfl))).st (Or.inr (Or.inr ⟨rfl, rfl⟩)) _
  have c28 : (kpC μ x').1 28 = μ.1 28 := funext fun i => by unfold kpC; rw [mst_nk (by decide), mst_nk (by decide), mcp_nk (by omega)]
  have r17 : (kepM ν).1 17 = ν.1 17 := kepM_fn (by decide) (by decide)
  have r19 : (kepM ν).1 19 = kepF (ν.1 19) (ν.1 17) (ν.1 0 35) := funext fun i => by unfold kepM; rw [mst_nk (by decide), mrow_at]
  refine h.act hC hR rfl (by rw [c28, r17]; exact h.S) ⟨min 40 (a + 1), (x' + 1) % 40, by omega, by omega, ?_, ?_, ?_, fun r hr => ?_⟩
  · unfold kpC; rw [mst_eq, e1]; omega
  · unfold kepM kepA; rw [mst_eq, e2]; split <;> omega
  · unfold kpC; rw [mst_ni (by decide), mst_eq]
  · rw [hR 0 25 (by omega), r19]
    have kA : (kepA (ν.1 0 35)).toNat = min 39 a := by unfold kepA; rw [e2]; split <;> omega
    by_cases er : r = min 39 a
    · rw [show ((x' + 1) % 40 + 40 - min 40 (a + 1) + r) % 40 = x' by omega]
      refine h.S.cg (fun i hi => ?_) (fun i hi => ?_)
      · unfold kpC; rw [mst_nk (by omega), mst_nk (by omega), mcp_in (by omega) (by omega), Nat.zero_add, Nat.sub_zero]
      · unfold kepF; rw [kA, if_pos (by omega), show 218 * r + i - 218 * min 39 a = i by omega]
    · have hlt : r < min 39 a := by omega
      have hi2 : ((x' + 1) % 40 + 40 - min 40 (a + 1) + r) % 40 ≠ x' := by omega
      have hrow : (kpC μ x').1 (33 + ((x' + 1) % 40 + 40 - min 40 (a + 1) + r) % 40) = μ.1 (33 + ((x' + 1) % 40 + 40 - min 40 (a + 1) + r) % 40) := funext fun i => by unfold kpC; rw [mst_nk (by omega), mst_nk (by omega), mcp_nk (by omega)]
      rw [hrow]
      by_cases ea : a = 40
      · have := e4 (r + 1) (by omega)
        rw [show ((x' + 1) % 40 + 40 - min 40 (a + 1) + r) % 40 = (x' + 40 - a + (r + 1)) % 40 by omega]
        refine this.cg (fun _ _ => rfl) (fun i hi => ?_)
        unfold kepF kepG
        rw [kA, if_neg (by omega), if_pos (by omega)]
        first | rw [if_pos (by omega)]; exact congrArg _ (by omega) | exact congrArg _ (by omega)
      · have := e4 r (by omega)
        rw [show ((x' + 1) % 40 + 40 - min 40 (a + 1) + r) % 40 = (x' + 40 - a + r) % 40 by omega]
        refine this.cg (fun _ _ => rfl) (fun i hi => ?_)
        unfold kepF kepG
        rw [kA, if_neg (by omega), if_neg (by omega)]
theorem Rel.undo {μ ν : Mm} (h : Rel μ ν) {x a : Nat} (hx : μ.1 31 2 = (x : Int)) (ha : μ.1 31 1 = (a : Int)) (ha0 : 0 < a) : Rel (mcp (mst (mst μ 31 2 (((x + 39) % 40 : Nat) : Int)) 31 1 (μ.1 31 1 - 1)) 28 (33 + (x + 39) % 40) 0 0 98) (mcp (mst ν 0 35 (ν.1 0 35 - 1)) 17 19 0 (218 * (ν.1 0 35 - 1).toNat) 218) := by
  obtain ⟨a', x', ha', hx', e1, e2, e3, e4⟩ := h.A
  have hxx : x' = x := by omega
  have haa : a' = a := by omega
  subst hxx
  subst haa
  obtain ⟨m, hm⟩ : ∃ m, m = mcp (mst (mst μ 31 2 (((x' + 39) % 40 : Nat) : Int)) 31 1 (μ.1 31 1 - 1)) 28 (33 + (x' + 39) % 40) 0 0 98 := ⟨_, rfl⟩
  obtain ⟨n, hn⟩ : ∃ n, n = mcp (mst ν 0 35 (ν.1 0 35 - 1)) 17 19 0 (218 * (ν.1 0 35 - 1).toNat) 218 := ⟨_, rfl⟩
  rw [← hm, ← hn]
  have hC : Fq (fun k i => k = 28 ∨ k = 31 ∨ (33 ≤ k ∧ k < 73)) μ m := by rw [hm]; exact ((Fq.rf.st (Or.inr (Or.inl rfl)) _).st (Or.inr (Or.inl rfl)) _).cp (fun _ => Or.inl rfl)
  have hR : Fq (fun k i => k = 17 ∨ k = 19 ∨ (k = 0 ∧ i = 35)) ν n := by rw [hn]; exact (Fq.rf.st (Or.inr (Or.inr ⟨rfl, rfl⟩)) _).cp (fun _ => Or.inl rfl)
  have hlast := e4 (a' - 1) (by omega)
  rw [show (x' + 40 - a' + (a' - 1)) % 40 = (x' + 39) % 40 by omega] at hlast
  refine h.act hC hR (by rw [hm]; rfl) ?_ ⟨a' - 1, (x' + 39) % 40, by omega, by omega, ?_, ?_, ?_, fun r hr => ?_⟩
  · refine hlast.cg (fun i hi => ?_) (fun i hi => ?_)
    · rw [hm, mcp_in (by omega) (by omega), mst_nk (by omega), mst_nk (by omega), Nat.zero_add, Nat.sub_zero]
    · rw [hn, mcp_in (by omega) (by omega), mst_nk (by omega), show (ν.1 0 35 - 1).toNat = a' - 1 by omega, Nat.sub_zero]
  · rw [hm, mcp_nk (by decide), mst_eq, ha]; omega
  · rw [hn, mcp_nk (by decide), mst_eq, e2]; omega
  · rw [hm, mcp_nk (by decide), mst_ni (by decide), mst_eq]
  · have hrow : ∀ k, 33 ≤ k → m.1 k = μ.1 k := fun k hk => funext fun i => by rw [hm, mcp_nk (by omega), mst_nk (by omega), mst_nk (by omega)]
    rw [hR 0 25 (by omega), hrow _ (by omega), show ((x' + 39) % 40 + 40 - (a' - 1) + r) % 40 = (x' + 40 - a' + r) % 40 by omega, show n.1 19 = ν.1 19 from funext fun i => by rw [hn, mcp_nk (by decide), mst_nk (by decide)]]
    exact e4 r (by omega)
theorem Rel.back {μ ν : Mm} (h : Rel μ ν) (hi : ν.1 0 45 ≠ 0) : Rel (mst (mcp μ 28 30 0 0 98) 31 1 0) (mst (mcp ν 17 24 0 0 218) 0 35 0) := by
  obtain ⟨-, hx⟩ := h.I
  have hS := (hx.resolve_left hi).2
  obtain ⟨a', x', ha', hx', e1, e2, e3, e4⟩ := h.A
  refine h.act ((Fq.rf.cp (fun _ => Or.inl rfl)).st (Or.inr (Or.inl rfl)) _) ((Fq.rf.cp (fun _ => Or.inl rfl)).st (Or.inr (Or.inr ⟨rfl, rfl⟩)) _) rfl ?_ ⟨0, x', by omega, hx', mst_eq, mst_eq, by rw [mst_ni (by decide), mcp_nk (by decide)]; exact e3, fun r hr => absurd hr (Nat.not_lt_zero _)⟩
  exact hS.cg (fun i hi => by rw [mst_nk (by decide), mcp_in (by omega) (by omega), Nat.zero_add, Nat.sub_zero]) (fun i hi => by rw [mst_nk (by decide), mcp_in (by omega) (by omega), Nat.zero_add, Nat.sub_zero])
