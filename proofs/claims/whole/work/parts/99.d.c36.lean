/-! ## what the class is asked (3) -/
theorem fnd_none {P : Nat → Bool} {cd : Nat → Int} {i : Int} : ∀ n : Nat, (∀ k, k < n → P k = true → (cntB P k : Int) ≠ i) → fndG P cd i n = none
  | 0, _ => rfl
  | n + 1, h => by
    have ih := fnd_none (cd := cd) n (fun k hk => h k (by omega))
    by_cases e : P n = true
    · exact fndG_n2 ih (h n (by omega) e)
    · exact fndG_n1 ih e
theorem sel_none {P : Nat → Bool} {cd : Nat → Int} {i : Int} {n : Nat} (h : i < 0 ∨ (cntB P n : Int) ≤ i) : selG P cd i n = if i = -1 then (cntB P n : Int) else -1 := by
  unfold selG
  rw [fnd_none n (fun k hk hP => ?_)]
  · rfl
  · have h1 := cntB_t hP
    have h2 := cntB_mono P (k := k + 1) (n := n) (by omega)
    omega
theorem sel_hit {P : Nat → Bool} {cd : Nat → Int} {L n : Nat} (hP : P L = true) (hn : L < n) : selG P cd (cntB P L : Int) n = cd L := selG_hit (fnd_none L (fun k hk hPk => by
  have h1 := cntB_t hPk
  have h2 := cntB_mono P (k := k + 1) (n := L) (by omega)
  omega)) hP rfl hn
theorem cnt_ex {P : Nat → Bool} {i : Nat} : ∀ n, i < cntB P n → ∃ L, L < n ∧ P L = true ∧ cntB P L = i
  | 0, h => absurd h (Nat.not_lt_zero _)
  | n + 1, h => by
    by_cases e : i < cntB P n
    · obtain ⟨L, h1, h2, h3⟩ := cnt_ex n e
      exact ⟨L, by omega, h2, h3⟩
    · by_cases eP : P n = true
      · rw [cntB_t eP] at h
        exact ⟨n, by omega, eP, by omega⟩
      · rw [cntB_f eP] at h; omega
theorem grp_lt {b n : Int} (hn : 0 ≤ n) (hn2 : n ≤ 6) (h1 : 1 ≤ b) (h2 : b ≤ bShl 1 n - 1) : ∀ q, q < 6 → hasB b q = true → q < n.toNat := by
  have hall : ∀ n : Fin 7, ∀ b : Fin 64, ((b.val : Nat) : Int) ≤ bShl 1 ((n.val : Nat) : Int) - 1 → ∀ q : Fin 6, hasB ((b.val : Nat) : Int) q.val = true → q.val < n.val := by decide +kernel
  have hb := evb_rng hn hn2
  intro q hq hh
  have := hall ⟨n.toNat, by omega⟩ ⟨b.toNat, by omega⟩ (by simp only [Int.toNat_of_nonneg hn, Int.toNat_of_nonneg (show 0 ≤ b by omega)]; exact h2) ⟨q, hq⟩
  simp only [Int.toNat_of_nonneg (show 0 ≤ b by omega)] at this
  exact this hh
theorem FT_of {P Q : Nat → Bool} {μ : Mm} (e : Q = P) (h : FT P μ) : FT Q μ := by subst e; exact h
theorem likK_eq {ν n : Mm} {L k : Nat} {a b c : Int} (e2 : tpkM n = tpkM ν) (h1 : n.1 21 k = a) (h2 : n.1 22 k = b) (h3 : n.1 23 k = c) : likK n L k = decide ((if tpkM ν a L = b then (1 : Int) else 0) = c) := by
  subst h1 h2 h3
  unfold likK
  rw [e2]
theorem tpkM_cg {ν n : Mm} (h25 : n.1 0 25 = ν.1 0 25) (h15 : n.1 15 = ν.1 15) : tpkM n = tpkM ν := by
  have e1 : tapM n = tapM ν := by funext L p; unfold tapM; rw [h15]
  funext s L
  unfold tpkM
  rw [e1, h25]
theorem allB_cg {P Q : Nat → Bool} : ∀ n, (∀ k, k < n → P k = Q k) → allB P n = allB Q n
  | 0, _ => rfl
  | n + 1, h => by rw [allB, allB, allB_cg n (fun k hk => h k (by omega)), h n (by omega)]
theorem likB_s {n : Mm} {L k : Nat} (h : (n.1 0 41).toNat = k + 1) : likB n L = (allB (likK n L) k && likK n L k) := by
  unfold likB
  rw [h, allB]
theorem likB_add {ν n : Mm} {s z : Int} {one : Nat} (h41 : 0 ≤ ν.1 0 41) (h25 : n.1 0 25 = ν.1 0 25) (h15 : n.1 15 = ν.1 15) (r21 : n.1 21 = fu (ν.1 21) (ν.1 0 41).toNat s) (r22 : n.1 22 = fu (ν.1 22) (ν.1 0 41).toNat (one : Int)) (r23 : n.1 23 = fu (ν.1 23) (ν.1 0 41).toNat z) (r41 : n.1 0 41 = ν.1 0 41 + 1) : likB n = fun l => likB ν l && (qG ν s one z) l := by
  have e2 := tpkM_cg h25 h15
  funext L
  have hs := likB_s (n := n) (L := L) (k := (ν.1 0 41).toNat) (by omega)
  have h1 : allB (likK n L) (ν.1 0 41).toNat = likB ν L := allB_cg _ (fun k hk => (likK_eq e2 (by rw [r21, fu_ne (by omega)]) (by rw [r22, fu_ne (by omega)]) (by rw [r23, fu_ne (by omega)])).trans (likK_eq (n := ν) rfl rfl rfl rfl).symm)
  have h2 : likK n L (ν.1 0 41).toNat = qG ν s one z L := likK_eq e2 (by rw [r21, fu_eq]) (by rw [r22, fu_eq]) (by rw [r23, fu_eq])
  rw [hs, h1, h2]
theorem Rel.given {μ ν m : Mm} (h : Rel μ ν) (hp : ν.1 0 25 ≠ 0) (ht : ν.1 0 41 ≠ 10) {s z : Int} {one : Nat} (hs : 0 ≤ s ∧ s ≤ 63) (hone : one < 6) (hz : z = 0 ∨ z = 1) (hF : Fr gS μ m) (hFT : FT (fun l => likB ν l && (qG ν s one z) l) m) (h5 : m.1 81 5 = μ.1 81 5 + 1) : Rel m (mst (mst (mst (mst ν 21 (ν.1 0 41).toNat s) 22 (ν.1 0 41).toNat (one : Int)) 23 (ν.1 0 41).toNat z) 0 41 (ν.1 0 41 + 1)) := by
  obtain ⟨n, hn⟩ : ∃ n, n = mst (mst (mst (mst ν 21 (ν.1 0 41).toNat s) 22 (ν.1 0 41).toNat (one : Int)) 23 (ν.1 0 41).toNat z) 0 41 (ν.1 0 41 + 1) := ⟨_, rfl⟩
  rw [← hn]
  obtain ⟨⟨k1, k2⟩, k3, k4⟩ := h.G
  have hC : Fq (fun k i => k = 82 ∨ k = 83 ∨ k = 84 ∨ (k = 81 ∧ (i = 4 ∨ i = 5))) μ m := hF.q
  have hR : Fq (fun k i => k = 21 ∨ k = 22 ∨ k = 23 ∨ (k = 0 ∧ i = 41)) ν n := by rw [hn]; exact (((Fq.rf.st (Or.inl rfl) _).st (Or.inr (Or.inl rfl)) _).st (Or.inr (Or.inr (Or.inl rfl))) _).st (Or.inr (Or.inr (Or.inr ⟨rfl, rfl⟩))) _
  have r21 : n.1 21 = fu (ν.1 21) (ν.1 0 41).toNat s := by rw [hn]; funext i; rw [mst_nk (by decide), mst_nk (by decide), mst_nk (by decide), mst_fu]
  have r22 : n.1 22 = fu (ν.1 22) (ν.1 0 41).toNat (one : Int) := by rw [hn]; funext i; rw [mst_nk (by decide), mst_nk (by decide), mst_fu]; unfold fu; split; rfl; rw [mst_nk (by decide)]
  have r23 : n.1 23 = fu (ν.1 23) (ν.1 0 41).toNat z := by rw [hn]; funext i; rw [mst_nk (by decide), mst_fu]; unfold fu; split; rfl; rw [mst_nk (by decide), mst_nk (by decide)]
  have r41 : n.1 0 41 = ν.1 0 41 + 1 := by rw [hn, mst_eq]
  have hlik := likB_add (s := s) (z := z) (one := one) k1.1 (hR 0 25 (by omega)) (hR.fn (by omega)) r21 r22 r23 r41
  have hG : GesR m n := by
    refine ⟨⟨by omega, fun k hk => ?_⟩, by rw [h5, k3, r41], fun _ => FT_of hlik hFT⟩
    have := k2 k hk
    rw [r21, r22, r23]
    by_cases e : k = (ν.1 0 41).toNat
    · rw [e, fu_eq, fu_eq, fu_eq]; omega
    · rw [fu_ne e, fu_ne e, fu_ne e]; exact this
  refine ⟨⟨fqB h.B hR ?_ ?_ ?_ ?_ ?_ ?_, fqT h.T hC hR ?_ ?_ ?_ ?_ ?_ ?_ ?_, fqS h.S hC hR ?_ ?_ ?_⟩, ⟨fqI h.I hC hR ?_ ?_ ?_ ?_ ?_, fqA h.A hC hR ?_ ?_ ?_ ?_ ?_ ?_⟩, fqL h.L hC hR (by rw [hF.2]) ?_ ?_ (fun j hj => ⟨?_, fun i => ?_⟩) ?_ ?_ (fun c hc hcc j hj => ⟨fun i h1 h2 => ⟨?_, ?_⟩, ?_, ?_, fun i h1 h2 => ⟨?_, ?_, ?_⟩⟩), fqP h.P hC hR ?_ ?_ ?_ ?_, hG, fqN h.N hC hR ?_ ?_ ?_ ?_ ?_ ?_⟩
  all_goals (intros; omega)
theorem dX11_feed_0 : decode cX11_feed 0 = .ok (.iload_n 1, 1) := by decide +kernel
theorem dX11_feed_1 : decode cX11_feed 1 = .ok (.invokestatic 113, 3) := by decide +kernel
theorem dX11_feed_4 : decode cX11_feed 4 = .ok (.iload_n 2, 1) := by decide +kernel
theorem dX11_feed_5 : decode cX11_feed 5 = .ok (.invokestatic 113, 3) := by decide +kernel
theorem dX11_feed_8 : decode cX11_feed 8 = .ok (.iadd, 1) := by decide +kernel
theorem dX11_feed_9 : decode cX11_feed 9 = .ok (.iload_n 3, 1) := by decide +kernel
theorem dX11_feed_10 : decode cX11_feed 10 = .ok (.invokestatic 113, 3) := by decide +kernel
theorem dX11_feed_13 : decode cX11_feed 13 = .ok (.iadd, 1) := by decide +kernel
theorem dX11_feed_14 : decode cX11_feed 14 = .ok (.iload 4, 2) := by decide +kernel
theorem dX11_feed_16 : decode cX11_feed 16 = .ok (.invokestatic 113, 3) := by decide +kernel
theorem dX11_feed_19 : decode cX11_feed 19 = .ok (.iadd, 1) := by decide +kernel
theorem dX11_feed_20 : decode cX11_feed 20 = .ok (.iload 5, 2) := by decide +kernel
theorem dX11_feed_22 : decode cX11_feed 22 = .ok (.invokestatic 113, 3) := by decide +kernel
theorem dX11_feed_25 : decode cX11_feed 25 = .ok (.iadd, 1) := by decide +kernel
theorem dX11_feed_26 : decode cX11_feed 26 = .ok (.istore 6, 2) := by decide +kernel
theorem dX11_feed_28 : decode cX11_feed 28 = .ok (.aload_n 0, 1) := by decide +kernel
theorem dX11_feed_29 : decode cX11_feed 29 = .ok (.getfield 10, 3) := by decide +kernel
theorem dX11_feed_32 : decode cX11_feed 32 = .ok (.getfield 117, 3) := by decide +kernel
theorem dX11_feed_35 : decode cX11_feed 35 = .ok (.iload 6, 2) := by decide +kernel
theorem dX11_feed_37 : decode cX11_feed 37 = .ok (.iadd, 1) := by decide +kernel
theorem dX11_feed_38 : decode cX11_feed 38 = .ok (.sipush 240, 3) := by decide +kernel
theorem dX11_feed_41 : decode cX11_feed 41 = .ok (.if_icmp .le 5, 3) := by decide +kernel
theorem dX11_feed_44 : decode cX11_feed 44 = .ok (.iconst (-1), 1) := by decide +kernel
theorem dX11_feed_45 : decode cX11_feed 45 = .ok (.ireturn, 1) := by decide +kernel
theorem dX11_feed_46 : decode cX11_feed 46 = .ok (.aload_n 0, 1) := by decide +kernel
theorem dX11_feed_47 : decode cX11_feed 47 = .ok (.getfield 10, 3) := by decide +kernel
theorem dX11_feed_50 : decode cX11_feed 50 = .ok (.iload_n 1, 1) := by decide +kernel
theorem dX11_feed_51 : decode cX11_feed 51 = .ok (.invokevirtual 120, 3) := by decide +kernel
theorem dX11_feed_54 : decode cX11_feed 54 = .ok (.aload_n 0, 1) := by decide +kernel
theorem dX11_feed_55 : decode cX11_feed 55 = .ok (.getfield 10, 3) := by decide +kernel
theorem dX11_feed_58 : decode cX11_feed 58 = .ok (.iload_n 2, 1) := by decide +kernel
theorem dX11_feed_59 : decode cX11_feed 59 = .ok (.invokevirtual 120, 3) := by decide +kernel
theorem dX11_feed_62 : decode cX11_feed 62 = .ok (.aload_n 0, 1) := by decide +kernel
theorem dX11_feed_63 : decode cX11_feed 63 = .ok (.getfield 10, 3) := by decide +kernel
theorem dX11_feed_66 : decode cX11_feed 66 = .ok (.iload_n 3, 1) := by decide +kernel
theorem dX11_feed_67 : decode cX11_feed 67 = .ok (.invokevirtual 120, 3) := by decide +kernel
theorem dX11_feed_70 : decode cX11_feed 70 = .ok (.aload_n 0, 1) := by decide +kernel
theorem dX11_feed_71 : decode cX11_feed 71 = .ok (.getfield 10, 3) := by decide +kernel
theorem dX11_feed_74 : decode cX11_feed 74 = .ok (.iload 4, 2) := by decide +kernel
theorem dX11_feed_76 : decode cX11_feed 76 = .ok (.invokevirtual 120, 3) := by decide +kernel
theorem dX11_feed_79 : decode cX11_feed 79 = .ok (.aload_n 0, 1) := by decide +kernel
theorem dX11_feed_80 : decode cX11_feed 80 = .ok (.getfield 10, 3) := by decide +kernel
theorem dX11_feed_83 : decode cX11_feed 83 = .ok (.iload 5, 2) := by decide +kernel
theorem dX11_feed_85 : decode cX11_feed 85 = .ok (.invokevirtual 120, 3) := by decide +kernel
theorem dX11_feed_88 : decode cX11_feed 88 = .ok (.aload_n 0, 1) := by decide +kernel
theorem dX11_feed_89 : decode cX11_feed 89 = .ok (.getfield 10, 3) := by decide +kernel
theorem dX11_feed_92 : decode cX11_feed 92 = .ok (.getfield 117, 3) := by decide +kernel
theorem dX11_feed_95 : decode cX11_feed 95 = .ok (.ireturn, 1) := by decide +kernel
set_option maxHeartbeats 4000000 in
set_option maxRecDepth 100000 in
theorem cP_feed {μ ν : Mm} (h : Rel μ ν) (a b c d e : Int) : CtE PC 1 yX11_feed cX11_feed 7 (some .int) [vR 0, vI a, vI b, vI c, vI d, vI e] μ (fun r m => r = (if 240 < ν.1 0 2 + cntB (nzB (byt a b c d e)) 20 then -1 else ν.1 0 2 + cntB (nzB (byt a b c d e)) 20) ∧ Rel m (if 240 < ν.1 0 2 + cntB (nzB (byt a b c d e)) 20 then ν else mst (mrow ν 1 (tapF (ν.1 1) (ν.1 0 2).toNat (byt a b c d e) 20)) 0 2 (((ν.1 0 2).toNat + cntB (nzB (byt a b c d e)) 20 : Nat) : Int))) := by
  refine ct_intro [some (vR 0), some (vI a), some (vI b), some (vI c), some (vI d), some (vI e), none] RX11 (by decide) rfl XCo rfl (Nat.le_of_ble_eq_true rfl) (fun K hO => ?_)
  obtain ⟨N, hN, hN1, hN2, hN3⟩ := h.P
  have h5 := byt_5 a b c d e
  have q1 := cntB_le (nzB (byt a b c d e)) 20
  refine aw_iload_n hO dX11_feed_0 rfl rfl ?_
  refine aw_callSI (as := [vI a]) (st := []) hO dX11_feed_1 rfl (lw_t2 101 rfl rfl) kX8_bytesIn (cT_bytesIn μ (v := a)) (by decide) rfl rfl rfl (Nat.le_of_ble_eq_true rfl) ?_
  refine aw_iload_n hO dX11_feed_4 rfl rfl ?_
  refine aw_callSI (as := [vI b]) (st := [vI ((cW a : Nat) : Int)]) hO dX11_feed_5 rfl (lw_t2 101 rfl rfl) kX8_bytesIn (cT_bytesIn μ (v := b)) (by decide) rfl rfl rfl (Nat.le_of_ble_eq_true rfl) ?_
  refine aw_iadd hO dX11_feed_8 rfl ?_
  refine aw_iload_n hO dX11_feed_9 rfl rfl ?_
  refine aw_callSI (as := [vI c]) (st := [vI (((cW a : Nat) : Int) + ((cW b : Nat) : Int))]) hO dX11_feed_10 rfl (lw_t2 101 rfl rfl) kX8_bytesIn (cT_bytesIn μ (v := c)) (by decide) rfl rfl rfl (Nat.le_of_ble_eq_true rfl) ?_
  refine aw_iadd hO dX11_feed_13 rfl ?_
  refine aw_iload hO dX11_feed_14 rfl rfl ?_
  refine aw_callSI (as := [vI d]) (st := [vI ((((cW a : Nat) : Int) + ((cW b : Nat) : Int)) + ((cW c : Nat) : Int))]) hO dX11_feed_16 rfl (lw_t2 101 rfl rfl) kX8_bytesIn (cT_bytesIn μ (v := d)) (by decide) rfl rfl rfl (Nat.le_of_ble_eq_true rfl) ?_
  refine aw_iadd hO dX11_feed_19 rfl ?_
  refine aw_iload hO dX11_feed_20 rfl rfl ?_
  refine aw_callSI (as := [vI e]) (st := [vI (((((cW a : Nat) : Int) + ((cW b : Nat) : Int)) + ((cW c : Nat) : Int)) + ((cW d : Nat) : Int))]) hO dX11_feed_22 rfl (lw_t2 101 rfl rfl) kX8_bytesIn (cT_bytesIn μ (v := e)) (by decide) rfl rfl rfl (Nat.le_of_ble_eq_true rfl) ?_
  refine aw_iadd hO dX11_feed_25 rfl ?_
  refine aw_istore (ls' := [some (vR 0), some (vI a), some (vI b), some (vI c), some (vI d), some (vI e), some (vI ((((((cW a : Nat) : Int) + ((cW b : Nat) : Int)) + ((cW c : Nat) : Int)) + ((cW d : Nat) : Int)) + ((cW e : Nat) : Int)))]) hO dX11_feed_26 rfl (Nat.le_of_ble_eq_true rfl) rfl rfl ?_
  refine aw_aload_n hO dX11_feed_28 rfl rfl ?_
  refine gC_X11_10_0 hO dX11_feed_29 rfl ?_
  refine gC_X11_117_1 hO dX11_feed_32 rfl ?_
  refine aw_cg hN1 ?_
  refine aw_iload hO dX11_feed_35 rfl rfl ?_
  refine aw_iadd hO dX11_feed_37 rfl ?_
  refine aw_sipush hO dX11_feed_38 rfl (by decide) (by decide) ?_
  refine aw_icmp_le (tgt := 46) hO dX11_feed_41 rfl rfl ⟨by omega, by omega⟩ (inRlit _) (fun c41 => ?_) (fun c41 => ?_)
  · refine aw_aload_n hO dX11_feed_46 rfl rfl ?_
    refine gC_X11_10_0 hO dX11_feed_47 rfl ?_
    refine aw_iload_n hO dX11_feed_50 rfl rfl ?_
    refine aw_callVV (as := [vI a]) (st := []) hO dX11_feed_51 rfl (lw_t2 104 rfl rfl) kX8_add (T := TX8) rfl (by decide) rfl (cT_tadd (v := a) (n := N) hN1 (by omega)) (by decide) rfl rfl rfl (Nat.le_of_ble_eq_true rfl) (fun μ2 hq3 => ?_)
    have e_μ2 := hq3
    have hz0 : μ2.1 1 2 = ((N + cW a : Nat) : Int) := by rw [e_μ2, mst_eq]
    have ht0 : μ2.1 2 = tW (μ.1 2) (N) a := by rw [e_μ2]; funext i; rw [mst_nk (by decide), mrow_at]
    have hf0 : Fr (fun k i => (k = 1 ∧ i = 2) ∨ k = 2) μ μ2 := Fr.rf.tr ⟨fun k i hn => by rw [e_μ2]; by_cases e2 : k = 1; subst e2; rw [mst_ni (by omega), mrow_nk (by decide)]; rw [mst_nk e2, mrow_nk (by omega)], by rw [e_μ2]; rfl⟩
    refine aw_aload_n hO dX11_feed_54 rfl rfl ?_
    refine gC_X11_10_0 hO dX11_feed_55 rfl ?_
    refine aw_iload_n hO dX11_feed_58 rfl rfl ?_
    refine aw_callVV (as := [vI b]) (st := []) hO dX11_feed_59 rfl (lw_t2 104 rfl rfl) kX8_add (T := TX8) rfl (by decide) rfl (cT_tadd (v := b) (n := N + cW a) hz0 (by omega)) (by decide) rfl rfl rfl (Nat.le_of_ble_eq_true rfl) (fun μ5 hq6 => ?_)
    have e_μ5 := hq6
    have hz1 : μ5.1 1 2 = ((N + cW a + cW b : Nat) : Int) := by rw [e_μ5, mst_eq]
    have ht1 : μ5.1 2 = tW (tW (μ.1 2) (N) a) (N + cW a) b := by rw [e_μ5]; funext i; rw [mst_nk (by decide), mrow_at, ht0]
    have hf1 : Fr (fun k i => (k = 1 ∧ i = 2) ∨ k = 2) μ μ5 := hf0.tr ⟨fun k i hn => by rw [e_μ5]; by_cases e2 : k = 1; subst e2; rw [mst_ni (by omega), mrow_nk (by decide)]; rw [mst_nk e2, mrow_nk (by omega)], by rw [e_μ5]; rfl⟩
    refine aw_aload_n hO dX11_feed_62 rfl rfl ?_
    refine gC_X11_10_0 hO dX11_feed_63 rfl ?_
    refine aw_iload_n hO dX11_feed_66 rfl rfl ?_
    refine aw_callVV (as := [vI c]) (st := []) hO dX11_feed_67 rfl (lw_t2 104 rfl rfl) kX8_add (T := TX8) rfl (by decide) rfl (cT_tadd (v := c) (n := N + cW a + cW b) hz1 (by omega)) (by decide) rfl rfl rfl (Nat.le_of_ble_eq_true rfl) (fun μ8 hq9 => ?_)
    have e_μ8 := hq9
    have hz2 : μ8.1 1 2 = ((N + cW a + cW b + cW c : Nat) : Int) := by rw [e_μ8, mst_eq]
    have ht2 : μ8.1 2 = tW (tW (tW (μ.1 2) (N) a) (N + cW a) b) (N + cW a + cW b) c := by rw [e_μ8]; funext i; rw [mst_nk (by decide), mrow_at, ht1]
    have hf2 : Fr (fun k i => (k = 1 ∧ i = 2) ∨ k = 2) μ μ8 := hf1.tr ⟨fun k i hn => by rw [e_μ8]; by_cases e2 : k = 1; subst e2; rw [mst_ni (by omega), mrow_nk (by decide)]; rw [mst_nk e2, mrow_nk (by omega)], by rw [e_μ8]; rfl⟩
    refine aw_aload_n hO dX11_feed_70 rfl rfl ?_
    refine gC_X11_10_0 hO dX11_feed_71 rfl ?_
    refine aw_iload hO dX11_feed_74 rfl rfl ?_
    refine aw_callVV (as := [vI d]) (st := []) hO dX11_feed_76 rfl (lw_t2 104 rfl rfl) kX8_add (T := TX8) rfl (by decide) rfl (cT_tadd (v := d) (n := N + cW a + cW b + cW c) hz2 (by omega)) (by decide) rfl rfl rfl (Nat.le_of_ble_eq_true rfl) (fun μ11 hq12 => ?_)
    have e_μ11 := hq12
    have hz3 : μ11.1 1 2 = ((N + cW a + cW b + cW c + cW d : Nat) : Int) := by rw [e_μ11, mst_eq]
    have ht3 : μ11.1 2 = tW (tW (tW (tW (μ.1 2) (N) a) (N + cW a) b) (N + cW a + cW b) c) (N + cW a + cW b + cW c) d := by rw [e_μ11]; funext i; rw [mst_nk (by decide), mrow_at, ht2]
    have hf3 : Fr (fun k i => (k = 1 ∧ i = 2) ∨ k = 2) μ μ11 := hf2.tr ⟨fun k i hn => by rw [e_μ11]; by_cases e2 : k = 1; subst e2; rw [mst_ni (by omega), mrow_nk (by decide)]; rw [mst_nk e2, mrow_nk (by omega)], by rw [e_μ11]; rfl⟩
    refine aw_aload_n hO dX11_feed_79 rfl rfl ?_
    refine gC_X11_10_0 hO dX11_feed_80 rfl ?_
    refine aw_iload hO dX11_feed_83 rfl rfl ?_
    refine aw_callVV (as := [vI e]) (st := []) hO dX11_feed_85 rfl (lw_t2 104 rfl rfl) kX8_add (T := TX8) rfl (by decide) rfl (cT_tadd (v := e) (n := N + cW a + cW b + cW c + cW d) hz3 (by omega)) (by decide) rfl rfl rfl (Nat.le_of_ble_eq_true rfl) (fun μ14 hq15 => ?_)
    have e_μ14 := hq15
    have hz4 : μ14.1 1 2 = ((N + cW a + cW b + cW c + cW d + cW e : Nat) : Int) := by rw [e_μ14, mst_eq]
    have ht4 : μ14.1 2 = tW (tW (tW (tW (tW (μ.1 2) (N) a) (N + cW a) b) (N + cW a + cW b) c) (N + cW a + cW b + cW c) d) (N + cW a + cW b + cW c + cW d) e := by rw [e_μ14]; funext i; rw [mst_nk (by decide), mrow_at, ht3]
    have hf4 : Fr (fun k i => (k = 1 ∧ i = 2) ∨ k = 2) μ μ14 := hf3.tr ⟨fun k i hn => by rw [e_μ14]; by_cases e2 : k = 1; subst e2; rw [mst_ni (by omega), mrow_nk (by decide)]; rw [mst_nk e2, mrow_nk (by omega)], by rw [e_μ14]; rfl⟩
    refine aw_aload_n hO dX11_feed_88 rfl rfl ?_
    refine gC_X11_10_0 hO dX11_feed_89 rfl ?_
    refine gC_X11_117_1 hO dX11_feed_92 rfl ?_
    refine aw_cg hz4 ?_
    refine aw_iret hO dX11_feed_95 ?_
    have hfit : ¬ 240 < ν.1 0 2 + cntB (nzB (byt a b c d e)) 20 := by omega
    have htp : μ14.1 2 = tapF (μ.1 2) N (byt a b c d e) 20 := by rw [ht4, h5.2]
    refine ⟨_, rfl, by rw [if_neg hfit]; omega, ?_⟩
    rw [if_neg hfit, show (ν.1 0 2).toNat = N by omega]
    refine h.tape hf4.q ((Fq.rf.rw (fun _ => Or.inr rfl)).st (Or.inl ⟨rfl, rfl⟩) _) (by rw [hf4.2]) ⟨N + cntB (nzB (byt a b c d e)) 20, by omega, by rw [hz4]; omega, mst_eq, fun p hp => ?_⟩
    have b1 := tapF_eq (f := byt a b c d e) (fun p hp => (hN3 p hp).1) 20 p hp
    have b2 := tapF_nz (f := byt a b c d e) (fun p hp => (hN3 p hp).2) (fun k => by rw [byt_w]; exact btw_rng _ _) 20 p hp
    rw [htp, mst_nk (by decide), mrow_at]
    exact ⟨b1, b2⟩
  · refine aw_iconst hO dX11_feed_44 rfl ?_
    refine aw_iret hO dX11_feed_45 ?_
    have hbig : 240 < ν.1 0 2 + cntB (nzB (byt a b c d e)) 20 := by omega
    exact ⟨_, rfl, by rw [if_pos hbig], by rw [if_pos hbig]; exact h⟩
theorem dX11_likings_0 : decode cX11_likings 0 = .ok (.aload_n 0, 1) := by decide +kernel
theorem dX11_likings_1 : decode cX11_likings 1 = .ok (.getfield 41, 3) := by decide +kernel
theorem dX11_likings_4 : decode cX11_likings 4 = .ok (.invokevirtual 154, 3) := by decide +kernel
theorem dX11_likings_7 : decode cX11_likings 7 = .ok (.ifCond .ne 5, 3) := by decide +kernel
theorem dX11_likings_10 : decode cX11_likings 10 = .ok (.iconst (-1), 1) := by decide +kernel
theorem dX11_likings_11 : decode cX11_likings 11 = .ok (.ireturn, 1) := by decide +kernel
theorem dX11_likings_12 : decode cX11_likings 12 = .ok (.iload_n 1, 1) := by decide +kernel
theorem dX11_likings_13 : decode cX11_likings 13 = .ok (.iconst (-1), 1) := by decide +kernel
theorem dX11_likings_14 : decode cX11_likings 14 = .ok (.if_icmp .ne 11, 3) := by decide +kernel
theorem dX11_likings_17 : decode cX11_likings 17 = .ok (.aload_n 0, 1) := by decide +kernel
theorem dX11_likings_18 : decode cX11_likings 18 = .ok (.getfield 90, 3) := by decide +kernel
theorem dX11_likings_21 : decode cX11_likings 21 = .ok (.getfield 300, 3) := by decide +kernel
theorem dX11_likings_24 : decode cX11_likings 24 = .ok (.ireturn, 1) := by decide +kernel
theorem dX11_likings_25 : decode cX11_likings 25 = .ok (.iload_n 1, 1) := by decide +kernel
theorem dX11_likings_26 : decode cX11_likings 26 = .ok (.ifCond .lt 14, 3) := by decide +kernel
theorem dX11_likings_29 : decode cX11_likings 29 = .ok (.iload_n 1, 1) := by decide +kernel
theorem dX11_likings_30 : decode cX11_likings 30 = .ok (.aload_n 0, 1) := by decide +kernel
theorem dX11_likings_31 : decode cX11_likings 31 = .ok (.getfield 90, 3) := by decide +kernel
theorem dX11_likings_34 : decode cX11_likings 34 = .ok (.getfield 300, 3) := by decide +kernel
theorem dX11_likings_37 : decode cX11_likings 37 = .ok (.if_icmp .lt 7, 3) := by decide +kernel
theorem dX11_likings_40 : decode cX11_likings 40 = .ok (.iconst (-1), 1) := by decide +kernel
theorem dX11_likings_41 : decode cX11_likings 41 = .ok (.goto 12, 3) := by decide +kernel
theorem dX11_likings_44 : decode cX11_likings 44 = .ok (.aload_n 0, 1) := by decide +kernel
theorem dX11_likings_45 : decode cX11_likings 45 = .ok (.getfield 90, 3) := by decide +kernel
theorem dX11_likings_48 : decode cX11_likings 48 = .ok (.getfield 303, 3) := by decide +kernel
theorem dX11_likings_51 : decode cX11_likings 51 = .ok (.iload_n 1, 1) := by decide +kernel
theorem dX11_likings_52 : decode cX11_likings 52 = .ok (.iaload, 1) := by decide +kernel
theorem dX11_likings_53 : decode cX11_likings 53 = .ok (.ireturn, 1) := by decide +kernel
set_option maxRecDepth 100000 in
theorem gC_X11_300_81 {Q : Option AV → Mm → Prop} {K : KT} {cc : ByteArray} {nL d : Nat} {ret : Option FieldType} {pc n : Nat} {ls : List (Option AV)} {st : List AV} {μ : Mm} (hO : KOk PC Q K cc RX11 nL d ret) (hd : decode cc pc = .ok (.getfield 300, 3)) (hn : pc + 3 = n) (kk : AW K n ls (vI (μ.1 81 4) :: st) μ) : AW K pc ls (vR 81 :: st) μ := aw_getN (f := 4) hO hd hn okX2 (by decide) (lw_t2n 28 rfl rfl) (by decide) rfl rfl rfl kk
set_option maxRecDepth 100000 in
theorem gC_X11_303_81 {Q : Option AV → Mm → Prop} {K : KT} {cc : ByteArray} {nL d : Nat} {ret : Option FieldType} {pc n : Nat} {ls : List (Option AV)} {st : List AV} {μ : Mm} (hO : KOk PC Q K cc RX11 nL d ret) (hd : decode cc pc = .ok (.getfield 303, 3)) (hn : pc + 3 = n) (kk : AW K n ls (vR 82 :: st) μ) : AW K pc ls (vR 81 :: st) μ := aw_getN (f := 1) hO hd hn okX2 (by decide) (lw_t2n 24 rfl rfl) (by decide) rfl rfl rfl kk
set_option maxHeartbeats 4000000 in
set_option maxRecDepth 100000 in
theorem cP_likings {μ ν : Mm} (h : Rel μ ν) {v : Int} (hv : InR v) : CtI PC 1 yX11_likings cX11_likings 2 (some .int) [vR 0, vI v] μ (if ν.1 0 25 ≠ 0 ∧ -1 ≤ v then selG (likB ν) (fun k => (k : Int)) v 1000 else -1) := by
  refine ct_intro [some (vR 0), some (vI v)] RX11 (by decide) rfl XCo rfl (Nat.le_of_ble_eq_true rfl) (fun K hO => ?_)
  obtain ⟨c, hc, hlc1, hlc2, hl3, hl4, hl5⟩ := h.L
  obtain ⟨N, hN, hN1, hN2, hN3⟩ := h.P
  obtain ⟨a, x, ha, hx, ha1, ha2, ha3, ha4⟩ := h.A
  have hnp := h.B.np
  have hnt := h.B.nt
  have hr := h.B.now.rest
  have hN15 := h.N.2.1
  have hcl := cntB_le (likB ν) 1000
  have hsn := sel_none (P := likB ν) (cd := fun k => (k : Int)) (i := v) (n := 1000)
  refine aw_aload_n hO dX11_likings_0 rfl rfl ?_
  refine gC_X11_41_0 hO dX11_likings_1 rfl ?_
  refine aw_callVI (as := []) (st := []) hO dX11_likings_4 rfl (lw_t3 96 rfl rfl) kX9_isTold (T := TX9) rfl (by decide) rfl (cJ_isTold h.JR.z) (by decide) rfl rfl rfl (Nat.le_of_ble_eq_true rfl) ?_
  refine aw_ifz_ne (tgt := 12) hO dX11_likings_7 rfl rfl (fun c7 => ?_) (fun c7 => ?_)
  · have hFT := h.G.2.2 c7
    refine aw_iload_n hO dX11_likings_12 rfl rfl ?_
    refine aw_iconst hO dX11_likings_13 rfl ?_
    refine aw_icmp_ne (tgt := 25) hO dX11_likings_14 rfl rfl hv (inRlit _) (fun c14 => ?_) (fun c14 => ?_)
    · refine aw_iload_n hO dX11_likings_25 rfl rfl ?_
      refine aw_if_lt (tgt := 40) hO dX11_likings_26 rfl rfl hv (fun c26 => ?_) (fun c26 => ?_)
      · refine aw_iconst hO dX11_likings_40 rfl ?_
        refine aw_goto (tgt := 53) hO dX11_likings_41 rfl ?_
        refine aw_iret hO dX11_likings_53 ?_
        exact rI (by rw [if_neg (by omega)])
      · refine aw_iload_n hO dX11_likings_29 rfl rfl ?_
        refine aw_aload_n hO dX11_likings_30 rfl rfl ?_
        refine gC_X11_90_0 hO dX11_likings_31 rfl ?_
        refine gC_X11_300_81 hO dX11_likings_34 rfl ?_
        refine aw_cg hFT.1 ?_
        refine aw_icmp_lt (tgt := 44) hO dX11_likings_37 rfl rfl hv ⟨by omega, by omega⟩ (fun c37 => ?_) (fun c37 => ?_)
        · obtain ⟨i, hie⟩ := Int.eq_ofNat_of_zero_le c26
          subst hie
          obtain ⟨L, hL1, hL2, hL3⟩ := cnt_ex 1000 (show i < cntB (likB ν) 1000 by omega)
          have hfit : μ.1 82 i = ((L : Nat) : Int) := by rw [← hL3]; exact hFT.2 L hL1 hL2
          refine aw_aload_n hO dX11_likings_44 rfl rfl ?_
          refine gC_X11_90_0 hO dX11_likings_45 rfl ?_
          refine gC_X11_303_81 hO dX11_likings_48 rfl ?_
          refine aw_iload_n hO dX11_likings_51 rfl rfl ?_
          refine aw_ialdn (N := 1000) (i := i) hO dX11_likings_52 rfl (by decide) rfl (by decide) rfl (by omega) ?_
          refine aw_cg hfit ?_
          refine aw_iret hO dX11_likings_53 ?_
          exact rI (by rw [if_pos ⟨c7, by omega⟩, ← hL3]; exact (sel_hit (cd := fun k => (k : Int)) hL2 hL1).symm)
        · refine aw_iconst hO dX11_likings_40 rfl ?_
          refine aw_goto (tgt := 53) hO dX11_likings_41 rfl ?_
          refine aw_iret hO dX11_likings_53 ?_
          exact rI (by rw [if_pos ⟨c7, by omega⟩, hsn (by omega), if_neg (by omega)])
    · refine aw_aload_n hO dX11_likings_17 rfl rfl ?_
      refine gC_X11_90_0 hO dX11_likings_18 rfl ?_
      refine gC_X11_300_81 hO dX11_likings_21 rfl ?_
      refine aw_cg hFT.1 ?_
      refine aw_iret hO dX11_likings_24 ?_
      exact rI (by rw [if_pos ⟨c7, by omega⟩, hsn (by omega), if_pos c14])
  · refine aw_iconst hO dX11_likings_10 rfl ?_
    refine aw_iret hO dX11_likings_11 ?_
    exact rI (by rw [if_neg (fun z => z.1 (by omega))])
theorem dX11_show_0 : decode cX11_show 0 = .ok (.aload_n 0, 1) := by decide +kernel
theorem dX11_show_1 : decode cX11_show 1 = .ok (.getfield 41, 3) := by decide +kernel
theorem dX11_show_4 : decode cX11_show 4 = .ok (.invokevirtual 154, 3) := by decide +kernel
theorem dX11_show_7 : decode cX11_show 7 = .ok (.ifCond .eq 23, 3) := by decide +kernel
theorem dX11_show_10 : decode cX11_show 10 = .ok (.aload_n 0, 1) := by decide +kernel
theorem dX11_show_11 : decode cX11_show 11 = .ok (.getfield 90, 3) := by decide +kernel
theorem dX11_show_14 : decode cX11_show 14 = .ok (.getfield 300, 3) := by decide +kernel
theorem dX11_show_17 : decode cX11_show 17 = .ok (.ifCond .le 13, 3) := by decide +kernel
theorem dX11_show_20 : decode cX11_show 20 = .ok (.aload_n 0, 1) := by decide +kernel
theorem dX11_show_21 : decode cX11_show 21 = .ok (.getfield 90, 3) := by decide +kernel
theorem dX11_show_24 : decode cX11_show 24 = .ok (.invokevirtual 306, 3) := by decide +kernel
theorem dX11_show_27 : decode cX11_show 27 = .ok (.goto 4, 3) := by decide +kernel
theorem dX11_show_30 : decode cX11_show 30 = .ok (.iconst (-1), 1) := by decide +kernel
theorem dX11_show_31 : decode cX11_show 31 = .ok (.ireturn, 1) := by decide +kernel
set_option maxHeartbeats 4000000 in
set_option maxRecDepth 100000 in
theorem cP_show {μ ν : Mm} (h : Rel μ ν)  : CtE PC 4 yX11_show cX11_show 1 (some .int) [vR 0] μ (fun r m => r = (if ν.1 0 25 ≠ 0 ∧ (if ν.1 0 25 ≠ 0 ∧ -1 ≤ 0 then selG (likB ν) (fun k => (k : Int)) 0 1000 else -1) ≠ -1 then (shO (apD ν) (ν.1 0 25).toNat (ν.1 0 25).toNat).1 else -1) ∧ QF μ m) := by
  refine ct_intro [some (vR 0)] RX11 (by decide) rfl XCo rfl (Nat.le_of_ble_eq_true rfl) (fun K hO => ?_)
  obtain ⟨c, hc, hlc1, hlc2, hl3, hl4, hl5⟩ := h.L
  obtain ⟨N, hN, hN1, hN2, hN3⟩ := h.P
  obtain ⟨a, x, ha, hx, ha1, ha2, ha3, ha4⟩ := h.A
  have hnp := h.B.np
  have hnt := h.B.nt
  have hr := h.B.now.rest
  have hN15 := h.N.2.1
  have hcl := cntB_le (likB ν) 1000
  refine aw_aload_n hO dX11_show_0 rfl rfl ?_
  refine gC_X11_41_0 hO dX11_show_1 rfl ?_
  refine aw_callVI (as := []) (st := []) hO dX11_show_4 rfl (lw_t3 96 rfl rfl) kX9_isTold (T := TX9) rfl (by decide) rfl (cJ_isTold h.JR.z) (by decide) rfl rfl rfl (Nat.le_of_ble_eq_true rfl) ?_
  refine aw_ifz_eq (tgt := 30) hO dX11_show_7 rfl rfl (fun c7 => ?_) (fun c7 => ?_)
  · refine aw_iconst hO dX11_show_30 rfl ?_
    refine aw_iret hO dX11_show_31 ?_
    exact ⟨_, rfl, by rw [if_neg (fun z => z.1 (by omega))], QF.rf⟩
  · have hFT := h.G.2.2 c7
    refine aw_aload_n hO dX11_show_10 rfl rfl ?_
    refine gC_X11_90_0 hO dX11_show_11 rfl ?_
    refine gC_X11_300_81 hO dX11_show_14 rfl ?_
    refine aw_cg hFT.1 ?_
    refine aw_if_le (tgt := 30) hO dX11_show_17 rfl rfl ⟨by omega, by omega⟩ (fun c17 => ?_) (fun c17 => ?_)
    · refine aw_iconst hO dX11_show_30 rfl ?_
      refine aw_iret hO dX11_show_31 ?_
      exact ⟨_, rfl, by rw [if_neg (fun z => z.2 (by rw [if_pos ⟨c7, by omega⟩, sel_none (by omega)]; rfl))], QF.rf⟩
    · refine aw_aload_n hO dX11_show_20 rfl rfl ?_
      refine gC_X11_90_0 hO dX11_show_21 rfl ?_
      refine aw_callVE (as := []) (st := []) hO dX11_show_24 rfl (lw_t5 2 rfl rfl) kX2_bestPair (T := TX2) rfl (by decide) rfl (cJ_bestPair h.JR.z hFT) (by decide) rfl rfl rfl (Nat.le_of_ble_eq_true rfl) (fun v1 μ2 hq3 => ?_)
      obtain ⟨e_v1, hF_μ2⟩ := hq3
      refine aw_goto (tgt := 31) hO dX11_show_27 rfl ?_
      refine aw_iret hO dX11_show_31 ?_
      obtain ⟨L, hL1, hL2, hL3⟩ := cnt_ex 1000 (show 0 < cntB (likB ν) 1000 by omega)
      have hsl : selG (likB ν) (fun k => (k : Int)) 0 1000 = (L : Int) := by have := sel_hit (cd := fun k => (k : Int)) hL2 hL1; rw [hL3] at this; exact this
      exact ⟨_, rfl, by rw [if_pos ⟨c7, by rw [if_pos ⟨c7, by omega⟩, hsl]; omega⟩, e_v1, shO_congr (fun p o hpo ho => dP_ap hpo (by omega) hnp.2) _ (Nat.le_refl _)], QF.p hF_μ2⟩
theorem dX11_work_0 : decode cX11_work 0 = .ok (.aload_n 0, 1) := by decide +kernel
theorem dX11_work_1 : decode cX11_work 1 = .ok (.getfield 41, 3) := by decide +kernel
theorem dX11_work_4 : decode cX11_work 4 = .ok (.invokevirtual 154, 3) := by decide +kernel
theorem dX11_work_7 : decode cX11_work 7 = .ok (.ifCond .eq 12, 3) := by decide +kernel
theorem dX11_work_10 : decode cX11_work 10 = .ok (.iload_n 1, 1) := by decide +kernel
theorem dX11_work_11 : decode cX11_work 11 = .ok (.ifCond .lt 8, 3) := by decide +kernel
theorem dX11_work_14 : decode cX11_work 14 = .ok (.iload_n 1, 1) := by decide +kernel
theorem dX11_work_15 : decode cX11_work 15 = .ok (.iconst 1, 1) := by decide +kernel
theorem dX11_work_16 : decode cX11_work 16 = .ok (.if_icmp .le 5, 3) := by decide +kernel
theorem dX11_work_19 : decode cX11_work 19 = .ok (.iconst (-1), 1) := by decide +kernel
theorem dX11_work_20 : decode cX11_work 20 = .ok (.ireturn, 1) := by decide +kernel
theorem dX11_work_21 : decode cX11_work 21 = .ok (.aload_n 0, 1) := by decide +kernel
theorem dX11_work_22 : decode cX11_work 22 = .ok (.getfield 83, 3) := by decide +kernel
theorem dX11_work_25 : decode cX11_work 25 = .ok (.aload_n 0, 1) := by decide +kernel
theorem dX11_work_26 : decode cX11_work 26 = .ok (.getfield 48, 3) := by decide +kernel
theorem dX11_work_29 : decode cX11_work 29 = .ok (.invokevirtual 309, 3) := by decide +kernel
theorem dX11_work_32 : decode cX11_work 32 = .ok (.iload_n 1, 1) := by decide +kernel
theorem dX11_work_33 : decode cX11_work 33 = .ok (.iconst 1, 1) := by decide +kernel
theorem dX11_work_34 : decode cX11_work 34 = .ok (.if_icmp .ne 11, 3) := by decide +kernel
theorem dX11_work_37 : decode cX11_work 37 = .ok (.aload_n 0, 1) := by decide +kernel
theorem dX11_work_38 : decode cX11_work 38 = .ok (.getfield 83, 3) := by decide +kernel
theorem dX11_work_41 : decode cX11_work 41 = .ok (.getfield 312, 3) := by decide +kernel
theorem dX11_work_44 : decode cX11_work 44 = .ok (.ireturn, 1) := by decide +kernel
theorem dX11_work_45 : decode cX11_work 45 = .ok (.aload_n 0, 1) := by decide +kernel
theorem dX11_work_46 : decode cX11_work 46 = .ok (.getfield 41, 3) := by decide +kernel
theorem dX11_work_49 : decode cX11_work 49 = .ok (.getfield 315, 3) := by decide +kernel
theorem dX11_work_52 : decode cX11_work 52 = .ok (.ifCond .ne 7, 3) := by decide +kernel
theorem dX11_work_55 : decode cX11_work 55 = .ok (.iconst (-1), 1) := by decide +kernel
theorem dX11_work_56 : decode cX11_work 56 = .ok (.goto 10, 3) := by decide +kernel
theorem dX11_work_59 : decode cX11_work 59 = .ok (.aload_n 0, 1) := by decide +kernel
theorem dX11_work_60 : decode cX11_work 60 = .ok (.getfield 83, 3) := by decide +kernel
theorem dX11_work_63 : decode cX11_work 63 = .ok (.getfield 318, 3) := by decide +kernel
theorem dX11_work_66 : decode cX11_work 66 = .ok (.ireturn, 1) := by decide +kernel
set_option maxRecDepth 100000 in
theorem gC_X11_318_77 {Q : Option AV → Mm → Prop} {K : KT} {cc : ByteArray} {nL d : Nat} {ret : Option FieldType} {pc n : Nat} {ls : List (Option AV)} {st : List AV} {μ : Mm} (hO : KOk PC Q K cc RX11 nL d ret) (hd : decode cc pc = .ok (.getfield 318, 3)) (hn : pc + 3 = n) (kk : AW K n ls (vI (μ.1 77 4) :: st) μ) : AW K pc ls (vR 77 :: st) μ := aw_getN (f := 4) hO hd hn okX6 (by decide) (lw_t2n 0 rfl rfl) (by decide) rfl rfl rfl kk
set_option maxRecDepth 100000 in
theorem gC_X11_312_77 {Q : Option AV → Mm → Prop} {K : KT} {cc : ByteArray} {nL d : Nat} {ret : Option FieldType} {pc n : Nat} {ls : List (Option AV)} {st : List AV} {μ : Mm} (hO : KOk PC Q K cc RX11 nL d ret) (hd : decode cc pc = .ok (.getfield 312, 3)) (hn : pc + 3 = n) (kk : AW K n ls (vI (μ.1 77 5) :: st) μ) : AW K pc ls (vR 77 :: st) μ := aw_getN (f := 5) hO hd hn okX6 (by decide) (lw_t2n 2 rfl rfl) (by decide) rfl rfl rfl kk
set_option maxHeartbeats 4000000 in
set_option maxRecDepth 100000 in
theorem cP_work {μ ν : Mm} (h : Rel μ ν) {v : Int} (hv : InR v) : CtE PC 11 yX11_work cX11_work 2 (some .int) [vR 0, vI v] μ (fun r m => r = (if ν.1 0 25 ≠ 0 ∧ (0 ≤ v ∧ v ≤ 1) then (if v = 1 then (wkM ν (ν.1 0 26).toNat 0 0 0 0 (-1, ν.1 0 43)).2 else if ν.1 0 26 = 0 then -1 else (wkM ν (ν.1 0 26).toNat 0 0 0 0 (-1, ν.1 0 43)).1) else -1) ∧ QF μ m) := by
  refine ct_intro [some (vR 0), some (vI v)] RX11 (by decide) rfl XCo rfl (Nat.le_of_ble_eq_true rfl) (fun K hO => ?_)
  obtain ⟨c, hc, hlc1, hlc2, hl3, hl4, hl5⟩ := h.L
  obtain ⟨N, hN, hN1, hN2, hN3⟩ := h.P
  obtain ⟨a, x, ha, hx, ha1, ha2, ha3, ha4⟩ := h.A
  have hnp := h.B.np
  have hnt := h.B.nt
  have hr := h.B.now.rest
  have hN15 := h.N.2.1
  refine aw_aload_n hO dX11_work_0 rfl rfl ?_
  refine gC_X11_41_0 hO dX11_work_1 rfl ?_
  refine aw_callVI (as := []) (st := []) hO dX11_work_4 rfl (lw_t3 96 rfl rfl) kX9_isTold (T := TX9) rfl (by decide) rfl (cJ_isTold h.JR.z) (by decide) rfl rfl rfl (Nat.le_of_ble_eq_true rfl) ?_
  refine aw_ifz_eq (tgt := 19) hO dX11_work_7 rfl rfl (fun c7 => ?_) (fun c7 => ?_)
  · refine aw_iconst hO dX11_work_19 rfl ?_
    refine aw_iret hO dX11_work_20 ?_
    exact ⟨_, rfl, by rw [if_neg (by omega)], QF.rf⟩
  · refine aw_iload_n hO dX11_work_10 rfl rfl ?_
    refine aw_if_lt (tgt := 19) hO dX11_work_11 rfl rfl hv (fun c11 => ?_) (fun c11 => ?_)
    · refine aw_iconst hO dX11_work_19 rfl ?_
      refine aw_iret hO dX11_work_20 ?_
      exact ⟨_, rfl, by rw [if_neg (by omega)], QF.rf⟩
    · refine aw_iload_n hO dX11_work_14 rfl rfl ?_
      refine aw_iconst hO dX11_work_15 rfl ?_
      refine aw_icmp_le (tgt := 21) hO dX11_work_16 rfl rfl hv (inRlit _) (fun c16 => ?_) (fun c16 => ?_)
      · refine aw_aload_n hO dX11_work_21 rfl rfl ?_
        refine gC_X11_83_0 hO dX11_work_22 rfl ?_
        refine aw_aload_n hO dX11_work_25 rfl rfl ?_
        refine gC_X11_48_0 hO dX11_work_26 rfl ?_
        refine aw_callVV (as := [vR 27]) (st := []) hO dX11_work_29 rfl (lw_t5 16 rfl rfl) kX6_shareOut (T := TX6) rfl (by decide) rfl (cJ_shareOut h.JR) (by decide) rfl rfl rfl (Nat.le_of_ble_eq_true rfl) (fun μ2 hq3 => ?_)
        have hQ := hq3
        refine aw_iload_n hO dX11_work_32 rfl rfl ?_
        refine aw_iconst hO dX11_work_33 rfl ?_
        refine aw_icmp_ne (tgt := 45) hO dX11_work_34 rfl rfl hv (inRlit _) (fun c34 => ?_) (fun c34 => ?_)
        · refine aw_aload_n hO dX11_work_45 rfl rfl ?_
          refine gC_X11_41_0 hO dX11_work_46 rfl ?_
          refine gC_X11_315_25 hO dX11_work_49 rfl ?_
          refine aw_cg (show μ2.1 25 2 = ν.1 0 26 by rw [hQ.2.2.1 25 2 (by omega)]; exact h.T.t) ?_
          refine aw_if_ne (tgt := 59) hO dX11_work_52 rfl rfl ⟨by omega, by omega⟩ (fun c52 => ?_) (fun c52 => ?_)
          · refine aw_aload_n hO dX11_work_59 rfl rfl ?_
            refine gC_X11_83_0 hO dX11_work_60 rfl ?_
            refine gC_X11_318_77 hO dX11_work_63 rfl ?_
            refine aw_cg hQ.1 ?_
            refine aw_iret hO dX11_work_66 ?_
            exact ⟨_, rfl, by rw [if_pos ⟨c7, c11, c16⟩, if_neg c34, if_neg c52, wk_same h.B], QF.of hQ.qs⟩
          · refine aw_iconst hO dX11_work_55 rfl ?_
            refine aw_goto (tgt := 66) hO dX11_work_56 rfl ?_
            refine aw_iret hO dX11_work_66 ?_
            exact ⟨_, rfl, by rw [if_pos ⟨c7, c11, c16⟩, if_neg c34, if_pos c52], QF.of hQ.qs⟩
        · refine aw_aload_n hO dX11_work_37 rfl rfl ?_
          refine gC_X11_83_0 hO dX11_work_38 rfl ?_
          refine gC_X11_312_77 hO dX11_work_41 rfl ?_
          refine aw_cg hQ.2.1 ?_
          refine aw_iret hO dX11_work_44 ?_
          exact ⟨_, rfl, by rw [if_pos ⟨c7, c11, c16⟩, if_pos c34, wk_same h.B], QF.of hQ.qs⟩
      · refine aw_iconst hO dX11_work_19 rfl ?_
        refine aw_iret hO dX11_work_20 ?_
        exact ⟨_, rfl, by rw [if_neg (by omega)], QF.rf⟩
