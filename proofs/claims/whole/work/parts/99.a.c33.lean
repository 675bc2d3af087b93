/-! ## acts of the class (2): years -/
theorem jS_frC {k i : Nat} (h : jS k i) : frC k i := by unfold jS at h; unfold frC; omega
theorem Rel.yearG {μ ν m : Mm} (h : Rel μ ν) {G : Nat → Int} (hC : Fq (fun k i => jS k i ∨ k = 28) μ m) (h22 : m.2.2 = μ.2.2) (hS : SR (m.1 28) G) (hL : LR (m.1 28) G) (hN : NowOK G) (hy : G 36 ≤ 999) (hz : ∀ p, p < 6 → G p = 0) : Rel m (mrow ν 17 G) := by
  refine h.state (hC.mono (fun k i e => e.elim (fun q => Or.inl (jS_frC q)) Or.inr)) (Fq.rf.rw (fun _ => Or.inr rfl)) h22 ?_
  rw [mrow_at]
  exact ⟨hS, hL, hN, hy, fun p hp _ => hz p hp⟩
theorem pass_0 {ν : Mm} {p : Nat} (hp : p < 6) : passF ν p = 0 := by
  unfold passF
  rw [addLog_lt (by omega)]
  unfold liveF endF
  rw [if_pos (by omega)]
theorem InY.fq {ν n m : Mm} {f kp : Nat → Int} {a : Int} (h : InY ν f kp a n) (h2 : InY ν f kp a m) : Fq scr n m := fun k i hn => by
  unfold scr at hn
  by_cases e1 : k = 17
  · subst e1; rw [h.1, h2.1]
  · by_cases e2 : k = 19
    · subst e2; rw [h.2.1, h2.2.1]
    · by_cases e3 : k = 0 ∧ i = 35
      · obtain ⟨rfl, rfl⟩ := e3; rw [h.2.2.1, h2.2.2.1]
      · rw [h.2.2.2 k i (by omega) (by omega) e1 e2 (by omega), h2.2.2.2 k i (by omega) (by omega) e1 e2 (by omega)]
theorem InY.row {ν n : Mm} {f kp G : Nat → Int} {a : Int} (h : InY ν f kp a n) : InY ν G kp a (mrow n 17 G) := ⟨mrow_at, by rw [mrow_nk (by decide)]; exact h.2.1, by rw [mrow_nk (by decide)]; exact h.2.2.1, fun k i e1 e2 e3 e4 e5 => by rw [mrow_nk e3]; exact h.2.2.2 k i e1 e2 e3 e4 e5⟩
theorem xor63 {a : Int} (h1 : 0 ≤ a) (h2 : a ≤ 63) {p : Nat} (hp : p < 6) : 0 ≤ bXor a (bShl 1 (p : Int)) ∧ bXor a (bShl 1 (p : Int)) ≤ 63 := by
  have h : ∀ (x : Fin 64) (p : Fin 6), 0 ≤ bXor (x.val : Int) (bShl 1 (p.val : Int)) ∧ bXor (x.val : Int) (bShl 1 (p.val : Int)) ≤ 63 := by decide +kernel
  have := h ⟨a.toNat, by omega⟩ ⟨p, hp⟩
  simp only [Int.toNat_of_nonneg h1] at this
  exact this
theorem dX11_martinmas_0 : decode cX11_martinmas 0 = .ok (.aload_n 0, 1) := by decide +kernel
theorem dX11_martinmas_1 : decode cX11_martinmas 1 = .ok (.getfield 41, 3) := by decide +kernel
theorem dX11_martinmas_4 : decode cX11_martinmas 4 = .ok (.invokevirtual 154, 3) := by decide +kernel
theorem dX11_martinmas_7 : decode cX11_martinmas 7 = .ok (.ifCond .ne 9, 3) := by decide +kernel
theorem dX11_martinmas_10 : decode cX11_martinmas 10 = .ok (.aload_n 0, 1) := by decide +kernel
theorem dX11_martinmas_11 : decode cX11_martinmas 11 = .ok (.iconst 0, 1) := by decide +kernel
theorem dX11_martinmas_12 : decode cX11_martinmas 12 = .ok (.invokevirtual 208, 3) := by decide +kernel
theorem dX11_martinmas_15 : decode cX11_martinmas 15 = .ok (.ireturn, 1) := by decide +kernel
theorem dX11_martinmas_16 : decode cX11_martinmas 16 = .ok (.iload_n 1, 1) := by decide +kernel
theorem dX11_martinmas_17 : decode cX11_martinmas 17 = .ok (.iconst 1, 1) := by decide +kernel
theorem dX11_martinmas_18 : decode cX11_martinmas 18 = .ok (.if_icmp .lt 9, 3) := by decide +kernel
theorem dX11_martinmas_21 : decode cX11_martinmas 21 = .ok (.iload_n 1, 1) := by decide +kernel
theorem dX11_martinmas_22 : decode cX11_martinmas 22 = .ok (.bipush 60, 2) := by decide +kernel
theorem dX11_martinmas_24 : decode cX11_martinmas 24 = .ok (.if_icmp .le 9, 3) := by decide +kernel
theorem dX11_martinmas_27 : decode cX11_martinmas 27 = .ok (.aload_n 0, 1) := by decide +kernel
theorem dX11_martinmas_28 : decode cX11_martinmas 28 = .ok (.iconst 1, 1) := by decide +kernel
theorem dX11_martinmas_29 : decode cX11_martinmas 29 = .ok (.invokevirtual 208, 3) := by decide +kernel
theorem dX11_martinmas_32 : decode cX11_martinmas 32 = .ok (.ireturn, 1) := by decide +kernel
theorem dX11_martinmas_33 : decode cX11_martinmas 33 = .ok (.aload_n 0, 1) := by decide +kernel
theorem dX11_martinmas_34 : decode cX11_martinmas 34 = .ok (.getfield 48, 3) := by decide +kernel
theorem dX11_martinmas_37 : decode cX11_martinmas 37 = .ok (.getfield 158, 3) := by decide +kernel
theorem dX11_martinmas_40 : decode cX11_martinmas 40 = .ok (.bipush 6, 2) := by decide +kernel
theorem dX11_martinmas_42 : decode cX11_martinmas 42 = .ok (.iaload, 1) := by decide +kernel
theorem dX11_martinmas_43 : decode cX11_martinmas 43 = .ok (.iload_n 1, 1) := by decide +kernel
theorem dX11_martinmas_44 : decode cX11_martinmas 44 = .ok (.iadd, 1) := by decide +kernel
theorem dX11_martinmas_45 : decode cX11_martinmas 45 = .ok (.sipush 999, 3) := by decide +kernel
theorem dX11_martinmas_48 : decode cX11_martinmas 48 = .ok (.if_icmp .le 9, 3) := by decide +kernel
theorem dX11_martinmas_51 : decode cX11_martinmas 51 = .ok (.aload_n 0, 1) := by decide +kernel
theorem dX11_martinmas_52 : decode cX11_martinmas 52 = .ok (.iconst 4, 1) := by decide +kernel
theorem dX11_martinmas_53 : decode cX11_martinmas 53 = .ok (.invokevirtual 208, 3) := by decide +kernel
theorem dX11_martinmas_56 : decode cX11_martinmas 56 = .ok (.ireturn, 1) := by decide +kernel
theorem dX11_martinmas_57 : decode cX11_martinmas 57 = .ok (.iconst 0, 1) := by decide +kernel
theorem dX11_martinmas_58 : decode cX11_martinmas 58 = .ok (.istore_n 2, 1) := by decide +kernel
theorem dX11_martinmas_59 : decode cX11_martinmas 59 = .ok (.iload_n 2, 1) := by decide +kernel
theorem dX11_martinmas_60 : decode cX11_martinmas 60 = .ok (.iload_n 1, 1) := by decide +kernel
theorem dX11_martinmas_61 : decode cX11_martinmas 61 = .ok (.if_icmp .ge 31, 3) := by decide +kernel
theorem dX11_martinmas_64 : decode cX11_martinmas 64 = .ok (.aload_n 0, 1) := by decide +kernel
theorem dX11_martinmas_65 : decode cX11_martinmas 65 = .ok (.getfield 58, 3) := by decide +kernel
theorem dX11_martinmas_68 : decode cX11_martinmas 68 = .ok (.aload_n 0, 1) := by decide +kernel
theorem dX11_martinmas_69 : decode cX11_martinmas 69 = .ok (.getfield 48, 3) := by decide +kernel
theorem dX11_martinmas_72 : decode cX11_martinmas 72 = .ok (.invokevirtual 215, 3) := by decide +kernel
theorem dX11_martinmas_75 : decode cX11_martinmas 75 = .ok (.aload_n 0, 1) := by decide +kernel
theorem dX11_martinmas_76 : decode cX11_martinmas 76 = .ok (.getfield 76, 3) := by decide +kernel
theorem dX11_martinmas_79 : decode cX11_martinmas 79 = .ok (.aload_n 0, 1) := by decide +kernel
theorem dX11_martinmas_80 : decode cX11_martinmas 80 = .ok (.getfield 48, 3) := by decide +kernel
theorem dX11_martinmas_83 : decode cX11_martinmas 83 = .ok (.invokevirtual 238, 3) := by decide +kernel
theorem dX11_martinmas_86 : decode cX11_martinmas 86 = .ok (.iinc 2 1, 3) := by decide +kernel
theorem dX11_martinmas_89 : decode cX11_martinmas 89 = .ok (.goto (-30), 3) := by decide +kernel
theorem dX11_martinmas_92 : decode cX11_martinmas 92 = .ok (.aload_n 0, 1) := by decide +kernel
theorem dX11_martinmas_93 : decode cX11_martinmas 93 = .ok (.getfield 48, 3) := by decide +kernel
theorem dX11_martinmas_96 : decode cX11_martinmas 96 = .ok (.getfield 158, 3) := by decide +kernel
theorem dX11_martinmas_99 : decode cX11_martinmas 99 = .ok (.bipush 6, 2) := by decide +kernel
theorem dX11_martinmas_101 : decode cX11_martinmas 101 = .ok (.iaload, 1) := by decide +kernel
theorem dX11_martinmas_102 : decode cX11_martinmas 102 = .ok (.ireturn, 1) := by decide +kernel
set_option maxHeartbeats 4000000 in
set_option maxRecDepth 100000 in
theorem cP_martinmas {μ ν : Mm} (h : Rel μ ν) {v : Int} (hv : InR v) : CtE PC 6 yX11_martinmas cX11_martinmas 3 (some .int) [vR 0, vI v] μ (fun r m => if martW ν v = -1 then r = (yrs ν v.toNat).1 36 ∧ ∀ m0, InY ν (yrs ν v.toNat).1 (yrs ν v.toNat).2.1 (yrs ν v.toNat).2.2 m0 → Rel m m0 else r = -1 ∧ Rel m (refM ν (martW ν v))) := by
  refine ct_intro [some (vR 0), some (vI v), none] RX11 (by decide) rfl XCo rfl (Nat.le_of_ble_eq_true rfl) (fun K hO => ?_)
  obtain ⟨c, hc, hlc1, hlc2, hl3, hl4, hl5⟩ := h.L
  obtain ⟨N, hN, hN1, hN2, hN3⟩ := h.P
  obtain ⟨a, x, ha, hx, ha1, ha2, ha3, ha4⟩ := h.A
  have hnp := h.B.np
  have hnt := h.B.nt
  have hr := h.B.now.rest
  have hN15 := h.N.2.1
  have hG := h.MG
  have hA2 := h.a2
  have lp : 1 ≤ v ∧ v ≤ 60 → ν.1 17 36 + v ≤ 999 → martW ν v = -1 → ∀ (c0 i : Nat) (m n : Mm), ((i + c0 : Nat) : Int) = v → InY ν (yrs ν i).1 (yrs ν i).2.1 (yrs ν i).2.2 n → Rel m n → AW K 59 [some (vR 0), some (vI v), some (vI ((i : Nat) : Int))] [] m := by
    intro hv1 hv2 hw c0
    induction c0 with
    | zero =>
      intro i m n hi hI hRm
      refine aw_iload_n hO dX11_martinmas_59 rfl rfl ?_
      refine aw_iload_n hO dX11_martinmas_60 rfl rfl ?_
      refine aw_icmp_ge (tgt := 92) hO dX11_martinmas_61 rfl rfl (inRn (by omega)) hv (fun c61 => ?_) (fun c61 => ?_)
      · refine aw_aload_n hO dX11_martinmas_92 rfl rfl ?_
        refine gC_X11_48_0 hO dX11_martinmas_93 rfl ?_
        refine gC_X11_158_27 hO dX11_martinmas_96 rfl ?_
        refine aw_bipush hO dX11_martinmas_99 rfl (by decide) (by decide) ?_
        refine aw_ialdn (N := 98) (i := 6) hO dX11_martinmas_101 rfl (by decide) rfl (by decide) rfl (by decide) ?_
        refine aw_cg (show m.1 28 6 = (yrs ν i).1 36 by rw [hRm.S.1.yr, hI.1]) ?_
        refine aw_iret hO dX11_martinmas_102 ?_
        exact ⟨_, rfl, by dsimp only; rw [if_pos hw, show v.toNat = i by omega]; exact ⟨rfl, fun m0 h0 => hRm.fr Fq.rf rfl (hI.fq h0)⟩⟩
      · exact absurd c61 (by omega)
    | succ c0 ih =>
      intro i m n hi hI hRm
      have hok := yrs_ok hG hA2 i (by omega)
      obtain ⟨a2, x2, ha2b, hx2, g1, g2, g3, -⟩ := hRm.A
      refine aw_iload_n hO dX11_martinmas_59 rfl rfl ?_
      refine aw_iload_n hO dX11_martinmas_60 rfl rfl ?_
      refine aw_icmp_ge (tgt := 92) hO dX11_martinmas_61 rfl rfl (inRn (by omega)) hv (fun c61 => ?_) (fun c61 => ?_)
      · exact absurd c61 (by omega)
      · refine aw_aload_n hO dX11_martinmas_64 rfl rfl ?_
        refine gC_X11_58_0 hO dX11_martinmas_65 rfl ?_
        refine aw_aload_n hO dX11_martinmas_68 rfl rfl ?_
        refine gC_X11_48_0 hO dX11_martinmas_69 rfl ?_
        refine aw_callVV (as := [vR 27]) (st := []) hO dX11_martinmas_72 rfl (lw_t3 143 rfl rfl) kX0_keep (T := TX0) rfl (by decide) rfl (ctC_0_keep m g3 hx2 ⟨by omega, by omega⟩) (by decide) rfl rfl rfl (Nat.le_of_ble_eq_true rfl) (fun μ2 hq3 => ?_)
        have hK : Rel μ2 (kepM n) := by rw [hq3]; exact hRm.keep g3
        have hIK := hI.kep
        have hyK : (kepM n).1 17 36 = ν.1 17 36 + i := by rw [hIK.1]; exact hok.2.1
        refine aw_aload_n hO dX11_martinmas_75 rfl rfl ?_
        refine gC_X11_76_0 hO dX11_martinmas_76 rfl ?_
        refine aw_aload_n hO dX11_martinmas_79 rfl rfl ?_
        refine gC_X11_48_0 hO dX11_martinmas_80 rfl ?_
        refine aw_callVV (as := [vR 27]) (st := []) hO dX11_martinmas_83 rfl (lw_t3 217 rfl rfl) kX1_endYear (T := TX1) rfl (by decide) rfl (cJ_endYear hK.JR hK.S.2.1 (by omega)) (by decide) rfl rfl rfl (Nat.le_of_ble_eq_true rfl) (fun μ5 hq6 => ?_)
        obtain ⟨hF, hS, hL⟩ := hq6
        have hB := hK.B
        have hR2 : Rel μ5 (mrow (kepM n) 17 (passF (kepM n))) := hK.yearG hF.q (by rw [hF.2]) hS hL (pass_ok hB (by omega)) (by rw [pass36' hB]; omega) (fun p hp => pass_0 hp)
        have hI2 : InY ν (yrs ν (i + 1)).1 (yrs ν (i + 1)).2.1 (yrs ν (i + 1)).2.2 (mrow (kepM n) 17 (passF (kepM n))) := hIK.pass ⟨mrow_at, fun k i e1 e2 e3 e4 => by rw [mrow_nk e3], rfl⟩
        refine aw_iinc (ls' := [some (vR 0), some (vI v), some (vI (((i : Nat) : Int) + 1))]) hO dX11_martinmas_86 rfl rfl rfl rfl ?_
        refine aw_lsq (ls' := [some (vR 0), some (vI v), some (vI (((i + 1) : Nat) : Int))]) rfl ?_
        refine aw_goto (tgt := 59) hO dX11_martinmas_89 rfl ?_
        refine aw_lsq (ls' := [some (vR 0), some (vI v), some (vI ((i + 1 : Nat) : Int))]) rfl ?_
        exact ih (i + 1) μ5 _ (by omega) hI2 hR2
  refine aw_aload_n hO dX11_martinmas_0 rfl rfl ?_
  refine gC_X11_41_0 hO dX11_martinmas_1 rfl ?_
  refine aw_callVI (as := []) (st := []) hO dX11_martinmas_4 rfl (lw_t3 96 rfl rfl) kX9_isTold (T := TX9) rfl (by decide) rfl (cJ_isTold h.JR.z) (by decide) rfl rfl rfl (Nat.le_of_ble_eq_true rfl) ?_
  refine aw_ifz_ne (tgt := 16) hO dX11_martinmas_7 rfl rfl (fun c7 => ?_) (fun c7 => ?_)
  · refine aw_iload_n hO dX11_martinmas_16 rfl rfl ?_
    refine aw_iconst hO dX11_martinmas_17 rfl ?_
    refine aw_icmp_lt (tgt := 27) hO dX11_martinmas_18 rfl rfl hv (inRlit _) (fun c18 => ?_) (fun c18 => ?_)
    · refine aw_aload_n hO dX11_martinmas_27 rfl rfl ?_
      refine aw_iconst hO dX11_martinmas_28 rfl ?_
      refine aw_callVE (as := [vI ((1 : Nat) : Int)]) (st := []) hO dX11_martinmas_29 rfl (lw_t3 132 rfl rfl) kX11_refuse (T := TX11) rfl (by decide) rfl (cP_refuse h (j := 1) (by decide)) (by decide) rfl rfl rfl (Nat.le_of_ble_eq_true rfl) (fun v7 μ8 hq9 => ?_)
      obtain ⟨e_v7, hR_μ8⟩ := hq9
      refine aw_iret hO dX11_martinmas_32 ?_
      have hw : martW ν v = 1 := by unfold martW; rw [if_neg (by omega), if_pos (by omega)]
      exact ⟨_, rfl, by dsimp only; rw [hw, if_neg (by decide)]; exact ⟨e_v7, hR_μ8⟩⟩
    · refine aw_iload_n hO dX11_martinmas_21 rfl rfl ?_
      refine aw_bipush hO dX11_martinmas_22 rfl (by decide) (by decide) ?_
      refine aw_icmp_le (tgt := 33) hO dX11_martinmas_24 rfl rfl hv (inRlit _) (fun c24 => ?_) (fun c24 => ?_)
      · refine aw_aload_n hO dX11_martinmas_33 rfl rfl ?_
        refine gC_X11_48_0 hO dX11_martinmas_34 rfl ?_
        refine gC_X11_158_27 hO dX11_martinmas_37 rfl ?_
        refine aw_bipush hO dX11_martinmas_40 rfl (by decide) (by decide) ?_
        refine aw_ialdn (N := 98) (i := 6) hO dX11_martinmas_42 rfl (by decide) rfl (by decide) rfl (by decide) ?_
        refine aw_cg h.JR.S.yr ?_
        refine aw_iload_n hO dX11_martinmas_43 rfl rfl ?_
        refine aw_iadd hO dX11_martinmas_44 rfl ?_
        refine aw_sipush hO dX11_martinmas_45 rfl (by decide) (by decide) ?_
        refine aw_icmp_le (tgt := 57) hO dX11_martinmas_48 rfl rfl ⟨by omega, by omega⟩ (inRlit _) (fun c48 => ?_) (fun c48 => ?_)
        · refine aw_iconst hO dX11_martinmas_57 rfl ?_
          refine aw_istore_n (ls' := [some (vR 0), some (vI v), some (vI 0)]) hO dX11_martinmas_58 rfl (Nat.le_of_ble_eq_true rfl) rfl rfl ?_
          have hw : martW ν v = -1 := by unfold martW; rw [if_neg (by omega), if_neg (by omega), if_neg (by omega)]
          refine aw_lsq (ls' := [some (vR 0), some (vI v), some (vI ((0 : Nat) : Int))]) rfl ?_
          exact lp ⟨c18, c24⟩ c48 hw v.toNat 0 μ ν (by omega) ⟨rfl, rfl, rfl, fun _ _ _ _ _ _ _ => rfl⟩ h
        · refine aw_aload_n hO dX11_martinmas_51 rfl rfl ?_
          refine aw_iconst hO dX11_martinmas_52 rfl ?_
          refine aw_callVE (as := [vI ((4 : Nat) : Int)]) (st := []) hO dX11_martinmas_53 rfl (lw_t3 132 rfl rfl) kX11_refuse (T := TX11) rfl (by decide) rfl (cP_refuse h (j := 4) (by decide)) (by decide) rfl rfl rfl (Nat.le_of_ble_eq_true rfl) (fun v10 μ11 hq12 => ?_)
          obtain ⟨e_v10, hR_μ11⟩ := hq12
          refine aw_iret hO dX11_martinmas_56 ?_
          have hw : martW ν v = 4 := by unfold martW; rw [if_neg (by omega), if_neg (by omega), if_pos (by omega)]
          exact ⟨_, rfl, by dsimp only; rw [hw, if_neg (by decide)]; exact ⟨e_v10, hR_μ11⟩⟩
      · refine aw_aload_n hO dX11_martinmas_27 rfl rfl ?_
        refine aw_iconst hO dX11_martinmas_28 rfl ?_
        refine aw_callVE (as := [vI ((1 : Nat) : Int)]) (st := []) hO dX11_martinmas_29 rfl (lw_t3 132 rfl rfl) kX11_refuse (T := TX11) rfl (by decide) rfl (cP_refuse h (j := 1) (by decide)) (by decide) rfl rfl rfl (Nat.le_of_ble_eq_true rfl) (fun v13 μ14 hq15 => ?_)
        obtain ⟨e_v13, hR_μ14⟩ := hq15
        refine aw_iret hO dX11_martinmas_32 ?_
        have hw : martW ν v = 1 := by unfold martW; rw [if_neg (by omega), if_pos (by omega)]
        exact ⟨_, rfl, by dsimp only; rw [hw, if_neg (by decide)]; exact ⟨e_v13, hR_μ14⟩⟩
  · refine aw_aload_n hO dX11_martinmas_10 rfl rfl ?_
    refine aw_iconst hO dX11_martinmas_11 rfl ?_
    refine aw_callVE (as := [vI ((0 : Nat) : Int)]) (st := []) hO dX11_martinmas_12 rfl (lw_t3 132 rfl rfl) kX11_refuse (T := TX11) rfl (by decide) rfl (cP_refuse h (j := 0) (by decide)) (by decide) rfl rfl rfl (Nat.le_of_ble_eq_true rfl) (fun v16 μ17 hq18 => ?_)
    obtain ⟨e_v16, hR_μ17⟩ := hq18
    refine aw_iret hO dX11_martinmas_15 ?_
    have hw : martW ν v = 0 := by unfold martW; rw [if_pos (by omega)]
    exact ⟨_, rfl, by dsimp only; rw [hw, if_neg (by decide)]; exact ⟨e_v16, hR_μ17⟩⟩
