/-! ## the class's whole memory, and the reference's -/
def StR (n : Int) (f g : Nat → Int) : Prop := SR f g ∧ LR f g ∧ NowOK g ∧ g 36 ≤ 999 ∧ ∀ p : Nat, p < 6 → n ≤ (p : Int) → g p = 0
theorem SR.cg {f f' g g' : Nat → Int} (h : SR f g) (hf : ∀ i, i < 98 → f' i = f i) (hg : ∀ i, i < 218 → g' i = g i) : SR f' g' := by
  obtain ⟨⟨a0, a1, a2, a3, a4, a5, a6, a7⟩, b, c, d, e⟩ := h
  refine ⟨⟨?_, ?_, ?_, ?_, ?_, ?_, ?_, ?_⟩, fun p hp => ?_, fun p t hp ht => ?_, fun p hp => ?_, fun t ht => ?_⟩
  · rw [hf _ (by omega), hg _ (by omega)]; exact a0
  · rw [hf _ (by omega), hg _ (by omega)]; exact a1
  · rw [hf _ (by omega), hg _ (by omega)]; exact a2
  · rw [hf _ (by omega), hg _ (by omega)]; exact a3
  · rw [hf _ (by omega), hg _ (by omega)]; exact a4
  · rw [hf _ (by omega), hg _ (by omega)]; exact a5
  · rw [hf _ (by omega), hg _ (by omega)]; exact a6
  · rw [hf _ (by omega), hg _ (by omega)]; exact a7
  · rw [hf _ (by omega), hg _ (by omega)]; exact b p hp
  · rw [hf _ (by omega), hg _ (by omega)]; exact c p t hp ht
  · rw [hf _ (by omega), hg _ (by omega)]; exact d p hp
  · rw [hf _ (by omega), hg _ (by omega)]; exact e t ht
theorem LR.cg {f f' g g' : Nat → Int} (h : LR f g) (hf : ∀ i, i < 98 → f' i = f i) (hg : ∀ i, i < 218 → g' i = g i) : LR f' g' := by
  obtain ⟨L, h1, h2, h3, h4⟩ := h
  refine ⟨L, by rw [hf 8 (by omega)]; exact h1, by rw [hf 6 (by omega)]; exact h2, by rw [hg 37 (by omega)]; exact h3, fun r hr => ?_⟩
  have hm : (L - min L 60 + r) % 60 < 60 := Nat.mod_lt _ (by decide)
  rw [hf _ (by omega), hg (38 + 3 * r) (by omega), hg (38 + 3 * r + 1) (by omega), hg (38 + 3 * r + 2) (by omega)]
  exact h4 r hr
theorem NowOK.cg {g g' : Nat → Int} (h : NowOK g) (hg : ∀ i, i < 218 → g' i = g i) : NowOK g' := h.lt (fun i hi => hg i (by omega)) (by rw [hg 37 (by omega)]; exact h.rest.2.2.2.2.2.2.2.2)
theorem StR.cg {n : Int} {f f' g g' : Nat → Int} (h : StR n f g) (hf : ∀ i, i < 98 → f' i = f i) (hg : ∀ i, i < 218 → g' i = g i) : StR n f' g' := ⟨h.1.cg hf hg, h.2.1.cg hf hg, h.2.2.1.cg hg, by rw [hg 36 (by omega)]; exact h.2.2.2.1, fun p hp hn => by rw [hg p (by omega)]; exact h.2.2.2.2 p hp hn⟩
def ActR (μ ν : Mm) : Prop := ∃ a x : Nat, a ≤ 40 ∧ x < 40 ∧ μ.1 31 1 = (a : Int) ∧ ν.1 0 35 = (a : Int) ∧ μ.1 31 2 = (x : Int) ∧ ∀ r, r < a → StR (ν.1 0 25) (μ.1 (33 + (x + 40 - a + r) % 40)) (fun i => ν.1 19 (218 * r + i))
def LawsR (μ ν : Mm) : Prop := ∃ c : Nat, c ≤ 4 ∧ μ.1 0 13 = (c : Int) ∧ ν.1 0 13 = (c : Int) ∧ (∀ j, j < c → ∃ l, LawC μ (13 + 3 * j) l ∧ LawR ν j l) ∧ μ.1 0 14 = ν.1 0 29 ∧ ((ν.1 0 29 = -1 ∧ μ.2.2 = none) ∨ ∃ j : Nat, j < c ∧ ν.1 0 29 = (j : Int) ∧ μ.2.2 = some (13 + 3 * j))
def TapR (μ ν : Mm) : Prop := ∃ N : Nat, N ≤ 240 ∧ μ.1 1 2 = (N : Int) ∧ ν.1 0 2 = (N : Int) ∧ ∀ p, p < N → μ.1 2 p = ν.1 1 p ∧ 1 ≤ ν.1 1 p ∧ ν.1 1 p ≤ 255
def GesR (μ ν : Mm) : Prop := NoteOK ν ∧ μ.1 81 5 = ν.1 0 41 ∧ (ν.1 0 25 ≠ 0 → FT (likB ν) μ)
def ImgR (μ ν : Mm) : Prop := μ.1 0 16 = ν.1 0 45 ∧ (ν.1 0 45 = 0 ∨ (ν.1 0 45 = 1 ∧ StR (ν.1 0 25) (μ.1 30) (ν.1 24)))
def NumR (μ ν : Mm) : Prop := μ.1 0 15 = ν.1 0 30 ∧ (0 ≤ ν.1 0 30 ∧ ν.1 0 30 ≤ 9) ∧ (∀ i, i < 5 → μ.1 85 i = ν.1 18 i) ∧ RG ν ∧ (0 ≤ ν.1 0 14 ∧ ν.1 0 14 ≤ 4)
def Rel (μ ν : Mm) : Prop := (MB ν ∧ TR μ ν ∧ StR (ν.1 0 25) (μ.1 28) (ν.1 17)) ∧ (ImgR μ ν ∧ ActR μ ν) ∧ LawsR μ ν ∧ TapR μ ν ∧ GesR μ ν ∧ NumR μ ν
section
variable {μ ν m n : Mm}
theorem Rel.B (h : Rel μ ν) : MB ν := h.1.1
theorem Rel.T (h : Rel μ ν) : TR μ ν := h.1.2.1
theorem Rel.S (h : Rel μ ν) : StR (ν.1 0 25) (μ.1 28) (ν.1 17) := h.1.2.2
theorem Rel.I (h : Rel μ ν) : ImgR μ ν := h.2.1.1
theorem Rel.A (h : Rel μ ν) : ActR μ ν := h.2.1.2
theorem Rel.L (h : Rel μ ν) : LawsR μ ν := h.2.2.1
theorem Rel.P (h : Rel μ ν) : TapR μ ν := h.2.2.2.1
theorem Rel.G (h : Rel μ ν) : GesR μ ν := h.2.2.2.2.1
theorem Rel.N (h : Rel μ ν) : NumR μ ν := h.2.2.2.2.2
end
/-- cells outside S are as before -/
def Fq (S : Nat → Nat → Prop) (μ m : Mm) : Prop := ∀ k i, ¬ S k i → m.1 k i = μ.1 k i
theorem Fq.fn {S : Nat → Nat → Prop} {μ m : Mm} (h : Fq S μ m) {k : Nat} (hk : ∀ i, ¬ S k i) : m.1 k = μ.1 k := funext fun i => h k i (hk i)
theorem Fr.q {S : Nat → Nat → Prop} {μ m : Mm} (h : Fr S μ m) : Fq S μ m := h.1
theorem Fq.rf {S : Nat → Nat → Prop} {μ : Mm} : Fq S μ μ := fun _ _ _ => rfl
theorem Fq.mono {S S' : Nat → Nat → Prop} {μ m : Mm} (h : Fq S μ m) (hs : ∀ k i, S k i → S' k i) : Fq S' μ m := fun k i hn => h k i (fun e => hn (hs k i e))
theorem Fq.tr {S : Nat → Nat → Prop} {a b c : Mm} (h : Fq S a b) (h2 : Fq S b c) : Fq S a c := fun k i hn => (h2 k i hn).trans (h k i hn)
theorem Scr.q {μ m : Mm} (h : Scr μ m) : Fq scr μ m := h.1
section
variable {C R : Nat → Nat → Prop} {μ ν m n : Mm}
theorem fqB (h : MB ν) (hR : Fq R ν n) (h1 : ¬ R 0 25) (h2 : ¬ R 0 26) (h3 : ∀ i, ¬ R 14 i) (h4 : ∀ i, ¬ R 15 i) (h5 : ∀ i, ¬ R 16 i) (h6 : ∀ i, ¬ R 17 i) : MB n := MB_eq h (hR _ _ h1) (hR _ _ h2) (hR.fn h3) (hR.fn h4) (hR.fn h5) (hR.fn h6)
theorem fqT (h : TR μ ν) (hC : Fq C μ m) (hR : Fq R ν n) (c1 : ∀ i, ¬ C 25 i) (c2 : ∀ i, ¬ C 26 i) (h1 : ¬ R 0 25) (h2 : ¬ R 0 26) (h3 : ∀ i, ¬ R 14 i) (h4 : ∀ i, ¬ R 15 i) (h5 : ∀ i, ¬ R 16 i) : TR m n := by
  unfold TR at *
  rw [hC.fn c1, hC.fn c2, hR _ _ h1, hR _ _ h2, hR.fn h3, hR.fn h4, hR.fn h5]
  exact h
theorem fqI (h : ImgR μ ν) (hC : Fq C μ m) (hR : Fq R ν n) (c1 : ¬ C 0 16) (c2 : ∀ i, ¬ C 30 i) (h1 : ¬ R 0 25) (h2 : ¬ R 0 45) (h3 : ∀ i, ¬ R 24 i) : ImgR m n := by
  unfold ImgR at *
  rw [hC _ _ c1, hC.fn c2, hR _ _ h1, hR _ _ h2, hR.fn h3]
  exact h
theorem fqA (h : ActR μ ν) (hC : Fq C μ m) (hR : Fq R ν n) (c1 : ¬ C 31 1) (c2 : ¬ C 31 2) (c3 : ∀ k i, 33 ≤ k → k < 73 → ¬ C k i) (h1 : ¬ R 0 25) (h2 : ¬ R 0 35) (h3 : ∀ i, ¬ R 19 i) : ActR m n := by
  obtain ⟨a, x, ha, hx, e1, e2, e3, hr⟩ := h
  refine ⟨a, x, ha, hx, by rw [hC _ _ c1]; exact e1, by rw [hR _ _ h2]; exact e2, by rw [hC _ _ c2]; exact e3, fun r hra => ?_⟩
  have hm : (x + 40 - a + r) % 40 < 40 := Nat.mod_lt _ (by decide)
  rw [hR _ _ h1, hC.fn (fun i => c3 _ i (by omega) (by omega)), hR.fn h3]
  exact hr r hra
theorem fqL (h : LawsR μ ν) (hC : Fq C μ m) (hR : Fq R ν n) (h22 : m.2.2 = μ.2.2) (c1 : ¬ C 0 13) (c2 : ¬ C 0 14) (c3 : ∀ j, j < 4 → ¬ C (13 + 3 * j) 2 ∧ ∀ i, ¬ C (14 + 3 * j) i) (h1 : ¬ R 0 13) (h2 : ¬ R 0 29) (h3 : ∀ c : Nat, c ≤ 4 → ν.1 0 13 = (c : Int) → ∀ j, j < c → (∀ i, 520 * j ≤ i → i < 520 * j + 520 → ¬ R 2 i ∧ ¬ R 3 i) ∧ ¬ R 4 j ∧ ¬ R 5 j ∧ ∀ i, 140 * j ≤ i → i < 140 * j + 140 → ¬ R 6 i ∧ ¬ R 7 i ∧ ¬ R 8 i) : LawsR m n := by
  obtain ⟨c, hc, e1, e2, e3, e4, e5⟩ := h
  refine ⟨c, hc, by rw [hC _ _ c1]; exact e1, by rw [hR _ _ h1]; exact e2, fun j hj => ?_, by rw [hC _ _ c2, hR _ _ h2]; exact e4, by rw [hR _ _ h2, h22]; exact e5⟩
  obtain ⟨l, l1, l2⟩ := e3 j hj
  obtain ⟨g1, g2, g3, g4⟩ := h3 c hc e2 j hj
  refine ⟨l, l1.fr (hC _ _ (c3 j (by omega)).1) (by rw [show 13 + 3 * j + 1 = 14 + 3 * j by omega]; exact hC.fn (c3 j (by omega)).2), ?_⟩
  obtain ⟨⟨q1, q2⟩, ⟨q3, q4⟩, q5, q6, q7⟩ := l2
  refine ⟨⟨by rw [hR _ _ g3]; exact q1, fun i cc hi => ?_⟩, ⟨by rw [hR _ _ g2]; exact q3, fun i hi => ?_⟩, q5, q6, q7⟩
  · have hlt : i < l.length := (List.getElem?_eq_some_iff.mp hi).1
    obtain ⟨g5, g6, g7⟩ := g4 (140 * j + i) (by omega) (by omega)
    rw [hR _ _ g5, hR _ _ g6, hR _ _ g7]
    exact q2 i cc hi
  · obtain ⟨g5, g6⟩ := g1 (520 * j + i) (by omega) (by omega)
    rw [hR _ _ g5, hR _ _ g6]
    exact q4 i hi
theorem fqP (h : TapR μ ν) (hC : Fq C μ m) (hR : Fq R ν n) (c1 : ¬ C 1 2) (c2 : ∀ i, ¬ C 2 i) (h1 : ¬ R 0 2) (h2 : ∀ i, ¬ R 1 i) : TapR m n := by
  unfold TapR at *
  rw [hC _ _ c1, hC.fn c2, hR _ _ h1, hR.fn h2]
  exact h
theorem likB_cg (h1 : n.1 0 25 = ν.1 0 25) (h2 : n.1 0 41 = ν.1 0 41) (h3 : n.1 15 = ν.1 15) (h4 : n.1 21 = ν.1 21) (h5 : n.1 22 = ν.1 22) (h6 : n.1 23 = ν.1 23) : likB n = likB ν := by
  have e1 : tapM n = tapM ν := by funext L p; unfold tapM; rw [h3]
  have e2 : tpkM n = tpkM ν := by funext s L; unfold tpkM; rw [e1, h1]
  have e3 : likK n = likK ν := by funext L k; unfold likK; rw [e2, h4, h5, h6]
  funext L
  unfold likB
  rw [e3, h2]
theorem fqG (h : GesR μ ν) (hC : Fq C μ m) (hR : Fq R ν n) (c1 : ¬ C 81 4) (c2 : ¬ C 81 5) (c3 : ∀ i, ¬ C 82 i) (h1 : ¬ R 0 25) (h2 : ¬ R 0 41) (h3 : ∀ i, ¬ R 15 i) (h4 : ∀ i, ¬ R 21 i) (h5 : ∀ i, ¬ R 22 i) (h6 : ∀ i, ¬ R 23 i) : GesR m n := by
  obtain ⟨a, b, c⟩ := h
  refine ⟨?_, by rw [hC _ _ c2, hR _ _ h2]; exact b, fun hp => ?_⟩
  · unfold NoteOK at *
    rw [hR _ _ h2, hR.fn h4, hR.fn h5, hR.fn h6]
    exact a
  · rw [hR _ _ h1] at hp
    rw [likB_cg (hR _ _ h1) (hR _ _ h2) (hR.fn h3) (hR.fn h4) (hR.fn h5) (hR.fn h6)]
    have := c hp
    unfold FT at *
    rw [hC _ _ c1, hC.fn c3]
    exact this
theorem fqN (h : NumR μ ν) (hC : Fq C μ m) (hR : Fq R ν n) (c1 : ¬ C 0 15) (c2 : ∀ i, ¬ C 85 i) (h1 : ¬ R 0 30) (h2 : ∀ i, ¬ R 18 i) (h3 : ∀ i, ¬ R 12 i) (h4 : ¬ R 0 14) : NumR m n := by
  unfold NumR RG at *
  rw [hC _ _ c1, hC.fn c2, hR _ _ h1, hR.fn h2, hR.fn h3, hR _ _ h4]
  exact h
theorem fqS (h : StR (ν.1 0 25) (μ.1 28) (ν.1 17)) (hC : Fq C μ m) (hR : Fq R ν n) (c1 : ∀ i, ¬ C 28 i) (h1 : ¬ R 0 25) (h2 : ∀ i, ¬ R 17 i) : StR (n.1 0 25) (m.1 28) (n.1 17) := by
  rw [hC.fn c1, hR _ _ h1, hR.fn h2]
  exact h
end
/-- what the class may write and nothing is changed by it -/
def frC (k i : Nat) : Prop := (k = 1 ∧ i ≠ 2) ∨ k = 3 ∨ (5 ≤ k ∧ k ≤ 7) ∨ (9 ≤ k ∧ k ≤ 11) ∨ k = 15 ∨ k = 18 ∨ k = 21 ∨ k = 24 ∨ (74 ≤ k ∧ k ≤ 75) ∨ (77 ≤ k ∧ k ≤ 80) ∨ k = 83 ∨ k = 84
theorem Rel.fr {μ ν m n : Mm} (h : Rel μ ν) (hC : Fq frC μ m) (h22 : m.2.2 = μ.2.2) (hR : Fq scr ν n) : Rel m n := by
  unfold frC at hC
  unfold scr at hR
  refine ⟨⟨fqB h.B hR ?_ ?_ ?_ ?_ ?_ ?_, fqT h.T hC hR ?_ ?_ ?_ ?_ ?_ ?_ ?_, fqS h.S hC hR ?_ ?_ ?_⟩, ⟨fqI h.I hC hR ?_ ?_ ?_ ?_ ?_, fqA h.A hC hR ?_ ?_ ?_ ?_ ?_ ?_⟩, fqL h.L hC hR h22 ?_ ?_ (fun j hj => ⟨?_, fun i => ?_⟩) ?_ ?_ (fun c hc hcc j hj => ⟨fun i h1 h2 => ⟨?_, ?_⟩, ?_, ?_, fun i h1 h2 => ⟨?_, ?_, ?_⟩⟩), fqP h.P hC hR ?_ ?_ ?_ ?_, fqG h.G hC hR ?_ ?_ ?_ ?_ ?_ ?_ ?_ ?_ ?_, fqN h.N hC hR ?_ ?_ ?_ ?_ ?_ ?_⟩
  all_goals (intros; omega)
theorem LawsR.hr {μ ν : Mm} (h : LawsR μ ν) : HR μ ν := by
  obtain ⟨c, hc, e1, e2, e3, e4, e5⟩ := h
  rcases e5 with ⟨a, b⟩ | ⟨j, hj, a, b⟩
  · exact Or.inl ⟨b, a⟩
  · obtain ⟨l, l1, l2⟩ := e3 j hj
    exact Or.inr ⟨j, l, by omega, a, b, l1, l2⟩
theorem LawsR.ok {μ ν : Mm} (h : LawsR μ ν) : HoldOK ν := by
  obtain ⟨c, hc, e1, e2, e3, e4, e5⟩ := h
  rcases e5 with ⟨a, b⟩ | ⟨j, hj, a, b⟩
  · exact Or.inl a
  · obtain ⟨l, l1, l2⟩ := e3 j hj
    refine Or.inr ⟨by omega, ?_⟩
    rw [a]
    exact l2.V
theorem Rel.MG {μ ν : Mm} (h : Rel μ ν) : MG ν := ⟨h.B, h.L.ok⟩
theorem Rel.JR {μ ν : Mm} (h : Rel μ ν) : JR μ 27 ν := ⟨Or.inl rfl, h.MG, h.T, h.L.hr, h.S.1⟩
theorem Rel.a2 {μ ν : Mm} (h : Rel μ ν) : 0 ≤ ν.1 0 35 ∧ ν.1 0 35 ≤ 40 := by
  obtain ⟨a, x, ha, hx, e1, e2, -⟩ := h.A
  omega
/-- the tape, as the readers of both have it -/
theorem Rel.tc {μ ν : Mm} (h : Rel μ ν) : ∃ N τ : Nat, TC (gM ν) N μ ∧ PT (gM ν) N τ ν := by
  obtain ⟨N, hN, e1, e2, e3⟩ := h.P
  have hg : Gok (gM ν) N := ⟨hN, fun p hp => by unfold gM; rw [if_pos (by omega)]; exact (e3 p hp).2, fun p hp => by unfold gM; rw [if_neg (by omega)]⟩
  have h14 := h.N.2.2.2.2
  refine ⟨N, (ν.1 0 14).toNat, ⟨hg, e1, fun p hp => by unfold gM; rw [if_pos (by omega)]; exact (e3 p hp).1⟩, hg, rfl, e2, by omega, by omega⟩
