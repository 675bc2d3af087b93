/-! ## texts are taken (3): a town -/
theorem cntB_tt {P : Nat → Bool} (h : ∀ k, P k = true) : ∀ n, cntB P n = n
  | 0 => rfl
  | n + 1 => by rw [cntB_t (h n), cntB_tt h n]
theorem FT_tt {P : Nat → Bool} {m : Mm} (h : ∀ k, P k = true) (h1 : m.1 81 4 = 1000) (h2 : ∀ L, L < 1000 → m.1 82 L = (L : Int)) : FT P m := by
  unfold FT
  rw [cntB_tt h]
  refine ⟨h1, fun L hL _ => ?_⟩
  rw [cntB_tt h]
  exact h2 L hL
theorem likB_0 {n : Mm} (h : n.1 0 41 = 0) (L : Nat) : likB n L = true := by
  unfold likB
  rw [h]
  rfl
theorem Rel.townIn {μ ν m n m1 m3 m4 m6 n1 : Mm} (h : Rel μ ν) {s : Tw} (hW : TwOk s) (hm1 : Fr rS μ m1) (hT : TMc m1 s) (h5 : m1.1 5 1 = ((s.2.1.1 : Nat) : Int) ∧ m1.1 5 2 = ((s.2.2.1 : Nat) : Int)) (hm3 : m3 = mst (mst (mst (mcp m1 26 6 0 0 48) 25 1 (m1.1 5 1)) 25 2 (m1.1 5 2)) 1 2 0) (hm4 : Fr (fun k _ => k = 28) m3 m4) (h28 : ∀ i, i < 98 → m4.1 28 i = bgF (m3.1 26 3) s.2.2.1 (fun t => m3.1 26 (28 + 4 * t + 1)) i) (hm6 : Fr gS (mst m4 31 1 0) m6) (h814 : m6.1 81 4 = 1000) (h815 : m6.1 81 5 = 0) (h82 : ∀ L, L < 1000 → m6.1 82 L = (L : Int)) (hm : m = mst m6 0 16 0) (hF : Fr sT ν n1) (hRG : RG n1) (hTM : TM n1 s) (hn : n = takM (mst n1 0 2 0)) : Rel m n := by
  have hTM2 : TM (mst n1 0 2 0) s := by
    unfold TM at *
    exact ⟨fun k hk => by rw [mst_nk (by decide)]; exact hTM.1 k hk, ⟨by rw [mst_ni (by decide)]; exact hTM.2.1.1, by rw [mst_ni (by decide)]; exact hTM.2.1.2⟩, fun i hi k hk => by rw [mst_nk (by decide)]; exact hTM.2.2.1 i hi k hk, fun i hi k hk => by rw [mst_nk (by decide)]; exact hTM.2.2.2 i hi k hk⟩
  have hRG2 : RG (mst n1 0 2 0) := fun i hi => by rw [mst_nk (by decide)]; exact hRG i hi
  have hB : MB n := by rw [hn]; exact takM_MB hTM2 hW hRG2
  have g6 : Fq (fun k i => k = 82 ∨ k = 83 ∨ k = 84 ∨ (k = 81 ∧ (i = 4 ∨ i = 5))) (mst m4 31 1 0) m6 := hm6.q
  have c4 : ∀ k i, k ≠ 28 → m4.1 k i = m3.1 k i := fun k i hk => hm4.1 k i hk
  have hC : Fq (fun k i => (frC k i ∨ (k = 1 ∧ i = 2)) ∨ k = 25 ∨ k = 26 ∨ k = 28 ∨ (k = 31 ∧ i = 1) ∨ k = 82 ∨ (k = 81 ∧ (i = 4 ∨ i = 5)) ∨ (k = 0 ∧ i = 16)) μ m := by
    have a3 : Fq (fun k i => (frC k i ∨ (k = 1 ∧ i = 2)) ∨ k = 25 ∨ k = 26 ∨ k = 28 ∨ (k = 31 ∧ i = 1) ∨ k = 82 ∨ (k = 81 ∧ (i = 4 ∨ i = 5)) ∨ (k = 0 ∧ i = 16)) μ m3 := by
      rw [hm3]
      exact ((((hm1.q.mono (fun k i e => by unfold rS tS at e; unfold frC; omega)).cp (fun _ => by omega)).st (by omega) _).st (by omega) _).st (by omega) _
    have a5 := (a3.tr (hm4.q.mono (fun k i e => by omega))).st (k := 31) (i := 1) (by omega) 0
    rw [hm]
    exact (a5.tr (g6.mono (fun k i e => by unfold frC; omega))).st (by omega) _
  unfold frC at hC
  have hR : Fq (fun k i => (k = 0 ∧ (i = 2 ∨ i = 3 ∨ i = 4 ∨ i = 20 ∨ i = 21 ∨ i = 25 ∨ i = 26 ∨ i = 35 ∨ i = 41 ∨ i = 45)) ∨ (11 ≤ k ∧ k ≤ 17)) ν n := fun k i hk => by
    rw [hn]
    by_cases e : k = 0
    · subst e; rw [takM_0 (by omega) (by omega) (by omega) (by omega) (by omega), mst_ni (by omega)]; exact hF.1 0 i (by unfold sT; omega)
    · rw [takM_fn (by omega) (by omega) (by omega) (by omega) (by omega), mst_nk e]; exact hF.1 k i (by unfold sT; omega)
  have h22 : m.2.2 = μ.2.2 := by rw [hm]; show m6.2.2 = _; rw [hm6.2]; show m4.2.2 = _; rw [hm4.2, hm3]; show m1.2.2 = _; rw [hm1.2]
  have k26 : ∀ i, i < 48 → m.1 26 i = m1.1 6 i := fun i hi => by
    rw [hm, mst_nk (by decide), g6 26 i (by omega), mst_nk (by decide), c4 26 i (by decide), hm3, mst_nk (by decide), mst_nk (by decide), mst_nk (by decide), mcp_in (by omega) (by omega), Nat.zero_add, Nat.sub_zero]
  have q26 : ∀ i, i < 48 → m3.1 26 i = m1.1 6 i := fun i hi => by
    rw [hm3, mst_nk (by decide), mst_nk (by decide), mst_nk (by decide), mcp_in (by omega) (by omega), Nat.zero_add, Nat.sub_zero]
  have k25 : m.1 25 1 = ((s.2.1.1 : Nat) : Int) ∧ m.1 25 2 = ((s.2.2.1 : Nat) : Int) := by
    constructor
    · rw [hm, mst_nk (by decide), g6 25 1 (by omega), mst_nk (by decide), c4 25 1 (by decide), hm3, mst_nk (by decide), mst_ni (by decide), mst_eq]; exact h5.1
    · rw [hm, mst_nk (by decide), g6 25 2 (by omega), mst_nk (by decide), c4 25 2 (by decide), hm3, mst_nk (by decide), mst_eq]; exact h5.2
  have n25 : n.1 0 25 = ((s.2.1.1 : Nat) : Int) := by rw [hn, takM_25]; exact hTM2.2.1.1
  have n26 : n.1 0 26 = ((s.2.2.1 : Nat) : Int) := by rw [hn, takM_26]; exact hTM2.2.1.2
  have w6 := hW.2.1.1
  have w5 := hW.2.2.1
  have hTR : TR m n := ⟨⟨by rw [k25.1, n25], by rw [k25.2, n26]⟩, fun k hk => by rw [k26 k (by omega), hn, takM_14 hk, hT.2.1 k hk, hTM2.1 k hk], fun p k hp hk => by
    rw [n25] at hp
    rw [k26 _ (by omega), hn, takM_15 (by omega), hT.2.2.1 p (by omega) k hk, hTM2.2.2.1 p (by omega) k hk], fun t k ht hk => by
    rw [n26] at ht
    rw [k26 _ (by omega), hn, takM_16 (by omega), hT.2.2.2 t (by omega) k hk, hTM2.2.2.2 t (by omega) k hk]⟩
  have k28 : ∀ i, i < 98 → m.1 28 i = bgF (s.1.2 3) s.2.2.1 (fun t => s.2.2.2 t 1) i := fun i hi => by
    rw [hm, mst_nk (by decide), g6 28 i (by omega), mst_nk (by decide), h28 i hi, q26 3 (by omega), hT.2.1 3 (by decide)]
    unfold bgF
    by_cases e1 : i = 3
    · rw [if_pos e1, if_pos e1]
    · rw [if_neg e1, if_neg e1]
      by_cases e2 : 33 ≤ i ∧ i < 33 + s.2.2.1
      · rw [if_pos e2, if_pos e2]
        dsimp only
        rw [q26 _ (by omega)]; exact hT.2.2.2 (i - 33) (by omega) 1 (by decide)
      · rw [if_neg e2, if_neg e2]
  have f17 : ∀ i, i < 218 → n.1 17 i = if i = 33 then s.1.2 3 else if 24 ≤ i ∧ i < 24 + s.2.2.1 then s.2.2.2 (i - 24) 1 else 0 := fun i hi => by
    have e21 : ((mst n1 0 2 0).1 0 21).toNat = s.2.2.1 := by rw [hTM2.2.1.2]; omega
    rw [hn, takM_17 hi (by omega), hTM2.1 3 (by decide), e21]
    by_cases e1 : i = 33
    · rw [if_pos e1, if_pos e1]
    · rw [if_neg e1, if_neg e1]
      by_cases e2 : 24 ≤ i ∧ i < 24 + s.2.2.1
      · rw [if_pos e2, if_pos e2]; exact hTM2.2.2.2 (i - 24) (by omega) 1 (by decide)
      · rw [if_neg e2, if_neg e2]
  have zc : ∀ i, i < 98 → i ≠ 3 → (i < 33 ∨ 38 ≤ i) → m.1 28 i = 0 := fun i hi h3 h4 => by rw [k28 i hi]; unfold bgF; rw [if_neg h3, if_neg (by omega)]
  have zr : ∀ i, i < 218 → i ≠ 33 → (i < 24 ∨ 29 ≤ i) → n.1 17 i = 0 := fun i hi h3 h4 => by rw [f17 i hi, if_neg h3, if_neg (by omega)]
  have hSR : SR (m.1 28) (n.1 17) := by
    refine ⟨⟨?_, ?_, ?_, ?_, ?_, ?_, ?_, ?_⟩, fun p hp => ?_, fun p t hp ht => ?_, fun p hp => ?_, fun t ht => ?_⟩
    · rw [zc _ (by omega) (by omega) (by omega), zr _ (by omega) (by omega) (by omega)]
    · rw [zc _ (by omega) (by omega) (by omega), zr _ (by omega) (by omega) (by omega)]
    · rw [zc _ (by omega) (by omega) (by omega), zr _ (by omega) (by omega) (by omega)]
    · rw [k28 3 (by omega), f17 33 (by omega), if_pos rfl]; unfold bgF; rw [if_pos rfl]
    · rw [zc _ (by omega) (by omega) (by omega), zr _ (by omega) (by omega) (by omega)]
    · rw [zc _ (by omega) (by omega) (by omega), zr _ (by omega) (by omega) (by omega)]
    · rw [zc _ (by omega) (by omega) (by omega), zr _ (by omega) (by omega) (by omega)]
    · rw [zc _ (by omega) (by omega) (by omega), zr _ (by omega) (by omega) (by omega)]
    · rw [zc _ (by omega) (by omega) (by omega), zr _ (by omega) (by omega) (by omega)]
    · rw [zc _ (by omega) (by omega) (by omega), zr _ (by omega) (by omega) (by omega)]
    · rw [zc _ (by omega) (by omega) (by omega), zr _ (by omega) (by omega) (by omega)]
    · rw [k28 _ (by omega), f17 _ (by omega)]
      unfold bgF
      rw [if_neg (show ¬ 33 + t = 3 by omega), if_neg (show ¬ 24 + t = 33 by omega)]
      by_cases e : t < s.2.2.1
      · rw [if_pos (show 33 ≤ 33 + t ∧ 33 + t < 33 + s.2.2.1 by omega), if_pos (show 24 ≤ 24 + t ∧ 24 + t < 24 + s.2.2.1 by omega), show 33 + t - 33 = t by omega, show 24 + t - 24 = t by omega]
      · rw [if_neg (show ¬ (33 ≤ 33 + t ∧ 33 + t < 33 + s.2.2.1) by omega), if_neg (show ¬ (24 ≤ 24 + t ∧ 24 + t < 24 + s.2.2.1) by omega)]
  have hS : StR (n.1 0 25) (m.1 28) (n.1 17) := ⟨hSR, ⟨0, by rw [zc 8 (by omega) (by omega) (by omega)]; rfl, by rw [zc 6 (by omega) (by omega) (by omega)]; rfl, by rw [zr 37 (by omega) (by omega) (by omega)]; rfl, fun r hr => absurd hr (by omega)⟩, hB.now, by rw [zr 36 (by omega) (by omega) (by omega)]; decide, fun p hp _ => zr p (by omega) (by omega) (by omega)⟩
  have hI : ImgR m n := ⟨by rw [hm, mst_eq, hn, takM_45], Or.inl (by rw [hn, takM_45])⟩
  have hA : ActR m n := by
    obtain ⟨a, x, ha, hx, e1, e2, e3, -⟩ := h.A
    exact ⟨0, x, by omega, hx, by rw [hm, mst_nk (by decide), g6 31 1 (by omega), mst_eq]; rfl, by rw [hn, takM_35]; rfl, by rw [hC 31 2 (by omega)]; exact e3, fun r hr => absurd hr (Nat.not_lt_zero _)⟩
  have hP : TapR m n := ⟨0, by decide, by rw [hm, mst_nk (by decide), g6 1 2 (by omega), mst_nk (by decide), c4 1 2 (by decide), hm3, mst_eq]; rfl, by rw [hn, takM_0 (by decide) (by decide) (by decide) (by decide) (by decide), mst_eq]; rfl, fun p hp => absurd hp (Nat.not_lt_zero _)⟩
  have n41 : n.1 0 41 = 0 := by rw [hn, takM_41]
  have hG : GesR m n := by
    refine ⟨⟨by rw [n41]; decide, fun k hk => ?_⟩, by rw [hm, mst_nk (by decide), h815, n41], fun _ => FT_tt (likB_0 n41) (by rw [hm, mst_nk (by decide)]; exact h814) (fun L hL => by rw [hm, mst_nk (by decide)]; exact h82 L hL)⟩
    rw [hR 21 k (by omega), hR 22 k (by omega), hR 23 k (by omega)]
    exact h.G.1.2 k hk
  have hN : NumR m n := ⟨by rw [hC 0 15 (by omega), hR 0 30 (by omega)]; exact h.N.1, by rw [hR 0 30 (by omega)]; exact h.N.2.1, fun i hi => by rw [hC 85 i (by omega), hR 18 i (by omega)]; exact h.N.2.2.1 i hi, fun i hi => by rw [hn, takM_fn (by decide) (by decide) (by decide) (by decide) (by decide)]; exact hRG2 i hi, by rw [hR 0 14 (by omega)]; exact h.N.2.2.2.2⟩
  refine ⟨⟨hB, hTR, hS⟩, ⟨hI, hA⟩, fqL h.L hC hR h22 ?_ ?_ (fun j hj => ⟨?_, fun i => ?_⟩) ?_ ?_ (fun c hc hcc j hj => ⟨fun i h1 h2 => ⟨?_, ?_⟩, ?_, ?_, fun i h1 h2 => ⟨?_, ?_, ?_⟩⟩), hP, hG, hN⟩
  all_goals (intros; omega)
