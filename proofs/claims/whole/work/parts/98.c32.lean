/-! ## acts of the class -/
theorem NowOK.c33 {f : Nat → Int} (h : NowOK f) {c : Int} (h1 : 0 ≤ c) (h2 : c ≤ 999) : NowOK (fu f 33 c) := by
  obtain ⟨a1, a2, a3, a4, a5, a6, a7, a8, a9, b1, b2, b3, b4⟩ := h
  refine ⟨fun p hp => ?_, fun j hj => ?_, fun p hp => ?_, fun t ht => ?_, ?_, ?_, ?_, ?_, ?_, ?_, ?_, ?_, ?_⟩
  · rw [fu_ne (by omega)]; exact a1 p hp
  · rw [fu_ne (by omega)]; exact a2 j hj
  · rw [fu_ne (by omega)]; exact a3 p hp
  · rw [fu_ne (by omega)]; exact a4 t ht
  · rw [fu_ne (by omega)]; exact a5
  · rw [fu_ne (by omega)]; exact a6
  · rw [fu_ne (by omega)]; exact a7
  · rw [fu_ne (by omega)]; exact a8
  · rw [fu_eq]; exact ⟨h1, h2⟩
  · rw [fu_ne (by omega), fu_ne (by omega)]; exact b1
  · rw [fu_ne (by omega), fu_ne (by omega)]; exact b2
  · rw [fu_ne (by omega)]; exact b3
  · rw [fu_ne (by omega)]; exact b4
theorem StR.to {n : Int} {f g f' g' : Nat → Int} (h : StR n f g) (hS : SR f' g') (h8 : ∀ i, i = 8 ∨ 38 ≤ i → f' i = f i) (hg : ∀ i, 36 ≤ i → g' i = g i) (hN : NowOK g') (hz : ∀ p : Nat, p < 6 → n ≤ (p : Int) → g' p = 0) : StR n f' g' := by
  refine ⟨hS, h.2.1.gs (fun i hi => ?_) (fun i hi => hg i (by omega)), hN, by rw [hg 36 (by omega)]; exact h.2.2.2.1, hz⟩
  by_cases e : i = 6
  · subst e; rw [hS.yr, hg 36 (by omega), h.1.yr]
  · exact h8 i (by omega)
theorem Rel.up {μ ν : Mm} (h : Rel μ ν) {i j : Nat} (hi : i < 38) (h8 : i ≠ 8) (hj : ri i = j) (hj6 : 6 ≤ j) (hj36 : j < 36) {v : Int} (hN : NowOK (fu (ν.1 17) j v)) : Rel (mst μ 28 i v) (mst ν 17 j v) := by
  refine h.state (Fq.rf.st (Or.inr rfl) _) (Fq.rf.st (Or.inr rfl) _) rfl ?_
  rw [mst_fu, mst_fu]
  exact h.S.to (h.S.1.up hi h8 hj v) (fun k hk => fu_ne (by omega)) (fun k hk => fu_ne (by omega)) hN (fun p hp hn => by rw [fu_ne (by omega)]; exact h.S.2.2.2.2 p hp hn)
theorem kep17 {ν : Mm} : (kepM ν).1 17 = ν.1 17 := kepM_fn (by decide) (by decide)
theorem dX11_give_0 : decode cX11_give 0 = .ok (.aload_n 0, 1) := by decide +kernel
theorem dX11_give_1 : decode cX11_give 1 = .ok (.getfield 41, 3) := by decide +kernel
theorem dX11_give_4 : decode cX11_give 4 = .ok (.invokevirtual 154, 3) := by decide +kernel
theorem dX11_give_7 : decode cX11_give 7 = .ok (.ifCond .ne 9, 3) := by decide +kernel
theorem dX11_give_10 : decode cX11_give 10 = .ok (.aload_n 0, 1) := by decide +kernel
theorem dX11_give_11 : decode cX11_give 11 = .ok (.iconst 0, 1) := by decide +kernel
theorem dX11_give_12 : decode cX11_give 12 = .ok (.invokevirtual 208, 3) := by decide +kernel
theorem dX11_give_15 : decode cX11_give 15 = .ok (.ireturn, 1) := by decide +kernel
theorem dX11_give_16 : decode cX11_give 16 = .ok (.iload_n 1, 1) := by decide +kernel
theorem dX11_give_17 : decode cX11_give 17 = .ok (.iconst 1, 1) := by decide +kernel
theorem dX11_give_18 : decode cX11_give 18 = .ok (.if_icmp .lt 26, 3) := by decide +kernel
theorem dX11_give_21 : decode cX11_give 21 = .ok (.iload_n 1, 1) := by decide +kernel
theorem dX11_give_22 : decode cX11_give 22 = .ok (.bipush 50, 2) := by decide +kernel
theorem dX11_give_24 : decode cX11_give 24 = .ok (.if_icmp .gt 20, 3) := by decide +kernel
theorem dX11_give_27 : decode cX11_give 27 = .ok (.aload_n 0, 1) := by decide +kernel
theorem dX11_give_28 : decode cX11_give 28 = .ok (.getfield 48, 3) := by decide +kernel
theorem dX11_give_31 : decode cX11_give 31 = .ok (.getfield 158, 3) := by decide +kernel
theorem dX11_give_34 : decode cX11_give 34 = .ok (.iconst 3, 1) := by decide +kernel
theorem dX11_give_35 : decode cX11_give 35 = .ok (.iaload, 1) := by decide +kernel
theorem dX11_give_36 : decode cX11_give 36 = .ok (.iload_n 1, 1) := by decide +kernel
theorem dX11_give_37 : decode cX11_give 37 = .ok (.iadd, 1) := by decide +kernel
theorem dX11_give_38 : decode cX11_give 38 = .ok (.sipush 999, 3) := by decide +kernel
theorem dX11_give_41 : decode cX11_give 41 = .ok (.if_icmp .le 9, 3) := by decide +kernel
theorem dX11_give_44 : decode cX11_give 44 = .ok (.aload_n 0, 1) := by decide +kernel
theorem dX11_give_45 : decode cX11_give 45 = .ok (.iconst 1, 1) := by decide +kernel
theorem dX11_give_46 : decode cX11_give 46 = .ok (.invokevirtual 208, 3) := by decide +kernel
theorem dX11_give_49 : decode cX11_give 49 = .ok (.ireturn, 1) := by decide +kernel
theorem dX11_give_50 : decode cX11_give 50 = .ok (.aload_n 0, 1) := by decide +kernel
theorem dX11_give_51 : decode cX11_give 51 = .ok (.getfield 58, 3) := by decide +kernel
theorem dX11_give_54 : decode cX11_give 54 = .ok (.aload_n 0, 1) := by decide +kernel
theorem dX11_give_55 : decode cX11_give 55 = .ok (.getfield 48, 3) := by decide +kernel
theorem dX11_give_58 : decode cX11_give 58 = .ok (.invokevirtual 215, 3) := by decide +kernel
theorem dX11_give_61 : decode cX11_give 61 = .ok (.aload_n 0, 1) := by decide +kernel
theorem dX11_give_62 : decode cX11_give 62 = .ok (.getfield 48, 3) := by decide +kernel
theorem dX11_give_65 : decode cX11_give 65 = .ok (.getfield 158, 3) := by decide +kernel
theorem dX11_give_68 : decode cX11_give 68 = .ok (.iconst 3, 1) := by decide +kernel
theorem dX11_give_69 : decode cX11_give 69 = .ok (.dup2, 1) := by decide +kernel
theorem dX11_give_70 : decode cX11_give 70 = .ok (.iaload, 1) := by decide +kernel
theorem dX11_give_71 : decode cX11_give 71 = .ok (.iload_n 1, 1) := by decide +kernel
theorem dX11_give_72 : decode cX11_give 72 = .ok (.iadd, 1) := by decide +kernel
theorem dX11_give_73 : decode cX11_give 73 = .ok (.iastore, 1) := by decide +kernel
theorem dX11_give_74 : decode cX11_give 74 = .ok (.aload_n 0, 1) := by decide +kernel
theorem dX11_give_75 : decode cX11_give 75 = .ok (.getfield 48, 3) := by decide +kernel
theorem dX11_give_78 : decode cX11_give 78 = .ok (.getfield 158, 3) := by decide +kernel
theorem dX11_give_81 : decode cX11_give 81 = .ok (.iconst 3, 1) := by decide +kernel
theorem dX11_give_82 : decode cX11_give 82 = .ok (.iaload, 1) := by decide +kernel
theorem dX11_give_83 : decode cX11_give 83 = .ok (.ireturn, 1) := by decide +kernel
set_option maxHeartbeats 4000000 in
set_option maxRecDepth 100000 in
theorem cP_give {μ ν : Mm} (h : Rel μ ν) {v : Int} (hv : InR v) : CtE PC 3 yX11_give cX11_give 2 (some .int) [vR 0, vI v] μ (fun r m => if giveW ν v = -1 then r = ν.1 17 33 + v ∧ Rel m (mst (kepM ν) 17 33 (ν.1 17 33 + v)) else r = -1 ∧ Rel m (refM ν (giveW ν v))) := by
  refine ct_intro [some (vR 0), some (vI v)] RX11 (by decide) rfl XCo rfl (Nat.le_of_ble_eq_true rfl) (fun K hO => ?_)
  obtain ⟨c, hc, hlc1, hlc2, hl3, hl4, hl5⟩ := h.L
  obtain ⟨N, hN, hN1, hN2, hN3⟩ := h.P
  obtain ⟨a, x, ha, hx, ha1, ha2, ha3, ha4⟩ := h.A
  have hnp := h.B.np
  have hnt := h.B.nt
  have hr := h.B.now.rest
  have hN15 := h.N.2.1
  refine aw_aload_n hO dX11_give_0 rfl rfl ?_
  refine gC_X11_41_0 hO dX11_give_1 rfl ?_
  refine aw_callVI (as := []) (st := []) hO dX11_give_4 rfl (lw_t3 96 rfl rfl) kX9_isTold (T := TX9) rfl (by decide) rfl (cJ_isTold h.JR.z) (by decide) rfl rfl rfl (Nat.le_of_ble_eq_true rfl) ?_
  refine aw_ifz_ne (tgt := 16) hO dX11_give_7 rfl rfl (fun c7 => ?_) (fun c7 => ?_)
  · refine aw_iload_n hO dX11_give_16 rfl rfl ?_
    refine aw_iconst hO dX11_give_17 rfl ?_
    refine aw_icmp_lt (tgt := 44) hO dX11_give_18 rfl rfl hv (inRlit _) (fun c18 => ?_) (fun c18 => ?_)
    · refine aw_aload_n hO dX11_give_44 rfl rfl ?_
      refine aw_iconst hO dX11_give_45 rfl ?_
      refine aw_callVE (as := [vI ((1 : Nat) : Int)]) (st := []) hO dX11_give_46 rfl (lw_t3 132 rfl rfl) kX11_refuse (T := TX11) rfl (by decide) rfl (cP_refuse h (j := 1) (by decide)) (by decide) rfl rfl rfl (Nat.le_of_ble_eq_true rfl) (fun v1 μ2 hq3 => ?_)
      obtain ⟨e_v1, hR_μ2⟩ := hq3
      refine aw_iret hO dX11_give_49 ?_
      have hw : giveW ν v = 1 := by unfold giveW; rw [if_neg (by omega)]; first | rw [if_pos (by omega)] | rw [if_neg (by omega), if_pos (by omega)]
      exact ⟨_, rfl, by dsimp only; rw [hw, if_neg (by decide)]; exact ⟨e_v1, hR_μ2⟩⟩
    · refine aw_iload_n hO dX11_give_21 rfl rfl ?_
      refine aw_bipush hO dX11_give_22 rfl (by decide) (by decide) ?_
      refine aw_icmp_gt (tgt := 44) hO dX11_give_24 rfl rfl hv (inRlit _) (fun c24 => ?_) (fun c24 => ?_)
      · refine aw_aload_n hO dX11_give_44 rfl rfl ?_
        refine aw_iconst hO dX11_give_45 rfl ?_
        refine aw_callVE (as := [vI ((1 : Nat) : Int)]) (st := []) hO dX11_give_46 rfl (lw_t3 132 rfl rfl) kX11_refuse (T := TX11) rfl (by decide) rfl (cP_refuse h (j := 1) (by decide)) (by decide) rfl rfl rfl (Nat.le_of_ble_eq_true rfl) (fun v4 μ5 hq6 => ?_)
        obtain ⟨e_v4, hR_μ5⟩ := hq6
        refine aw_iret hO dX11_give_49 ?_
        have hw : giveW ν v = 1 := by unfold giveW; rw [if_neg (by omega)]; first | rw [if_pos (by omega)] | rw [if_neg (by omega), if_pos (by omega)]
        exact ⟨_, rfl, by dsimp only; rw [hw, if_neg (by decide)]; exact ⟨e_v4, hR_μ5⟩⟩
      · refine aw_aload_n hO dX11_give_27 rfl rfl ?_
        refine gC_X11_48_0 hO dX11_give_28 rfl ?_
        refine gC_X11_158_27 hO dX11_give_31 rfl ?_
        refine aw_iconst hO dX11_give_34 rfl ?_
        refine aw_ialdn (N := 98) (i := 3) hO dX11_give_35 rfl (by decide) rfl (by decide) rfl (by decide) ?_
        refine aw_cg h.JR.S.sc.2.2.2.1 ?_
        refine aw_iload_n hO dX11_give_36 rfl rfl ?_
        refine aw_iadd hO dX11_give_37 rfl ?_
        refine aw_sipush hO dX11_give_38 rfl (by decide) (by decide) ?_
        refine aw_icmp_le (tgt := 50) hO dX11_give_41 rfl rfl ⟨by omega, by omega⟩ (inRlit _) (fun c41 => ?_) (fun c41 => ?_)
        · refine aw_aload_n hO dX11_give_50 rfl rfl ?_
          refine gC_X11_58_0 hO dX11_give_51 rfl ?_
          refine aw_aload_n hO dX11_give_54 rfl rfl ?_
          refine gC_X11_48_0 hO dX11_give_55 rfl ?_
          refine aw_callVV (as := [vR 27]) (st := []) hO dX11_give_58 rfl (lw_t3 143 rfl rfl) kX0_keep (T := TX0) rfl (by decide) rfl (ctC_0_keep μ ha3 hx ⟨by omega, by omega⟩) (by decide) rfl rfl rfl (Nat.le_of_ble_eq_true rfl) (fun μ8 hq9 => ?_)
          have e_μ8 := hq9
          have hK : Rel μ8 (kepM ν) := by rw [e_μ8]; exact h.keep ha3
          have hSK : SR (μ8.1 28) (ν.1 17) := by have := hK.S.1; rw [kep17] at this; exact this
          refine aw_aload_n hO dX11_give_61 rfl rfl ?_
          refine gC_X11_48_0 hO dX11_give_62 rfl ?_
          refine gC_X11_158_27 hO dX11_give_65 rfl ?_
          refine aw_iconst hO dX11_give_68 rfl ?_
          refine aw_dup2 hO dX11_give_69 rfl rfl rfl ?_
          refine aw_ialdn (N := 98) (i := 3) hO dX11_give_70 rfl (by decide) rfl (by decide) rfl (by decide) ?_
          refine aw_cg hSK.sc.2.2.2.1 ?_
          refine aw_iload_n hO dX11_give_71 rfl rfl ?_
          refine aw_iadd hO dX11_give_72 rfl ?_
          refine aw_iastn (N := 98) (i := 3) hO dX11_give_73 rfl (by decide) rfl (by decide) rfl (by decide) ?_
          refine aw_mm (fun μ10 e_μ10 => ?_)
          have hN2 : NowOK (fu (ν.1 17) 33 (ν.1 17 33 + v)) := h.B.now.c33 (by omega) (by omega)
          have hR2 : Rel μ10 (mst (kepM ν) 17 33 (ν.1 17 33 + v)) := by rw [e_μ10]; exact hK.up (by decide) (by decide) rfl (by decide) (by decide) (by rw [kep17]; exact hN2)
          have hS2 : SR (μ10.1 28) (fu (ν.1 17) 33 (ν.1 17 33 + v)) := by have := hR2.S.1; rw [mst_fu, kep17] at this; exact this
          refine aw_aload_n hO dX11_give_74 rfl rfl ?_
          refine gC_X11_48_0 hO dX11_give_75 rfl ?_
          refine gC_X11_158_27 hO dX11_give_78 rfl ?_
          refine aw_iconst hO dX11_give_81 rfl ?_
          refine aw_ialdn (N := 98) (i := 3) hO dX11_give_82 rfl (by decide) rfl (by decide) rfl (by decide) ?_
          refine aw_cg hS2.sc.2.2.2.1 ?_
          refine aw_iret hO dX11_give_83 ?_
          have hw : giveW ν v = -1 := by unfold giveW; rw [if_neg (by omega), if_neg (by omega), if_neg (by omega)]
          exact ⟨_, rfl, by dsimp only; rw [if_pos hw]; exact ⟨fu_eq, hR2⟩⟩
        · refine aw_aload_n hO dX11_give_44 rfl rfl ?_
          refine aw_iconst hO dX11_give_45 rfl ?_
          refine aw_callVE (as := [vI ((1 : Nat) : Int)]) (st := []) hO dX11_give_46 rfl (lw_t3 132 rfl rfl) kX11_refuse (T := TX11) rfl (by decide) rfl (cP_refuse h (j := 1) (by decide)) (by decide) rfl rfl rfl (Nat.le_of_ble_eq_true rfl) (fun v11 μ12 hq13 => ?_)
          obtain ⟨e_v11, hR_μ12⟩ := hq13
          refine aw_iret hO dX11_give_49 ?_
          have hw : giveW ν v = 1 := by unfold giveW; rw [if_neg (by omega)]; first | rw [if_pos (by omega)] | rw [if_neg (by omega), if_pos (by omega)]
          exact ⟨_, rfl, by dsimp only; rw [hw, if_neg (by decide)]; exact ⟨e_v11, hR_μ12⟩⟩
  · refine aw_aload_n hO dX11_give_10 rfl rfl ?_
    refine aw_iconst hO dX11_give_11 rfl ?_
    refine aw_callVE (as := [vI ((0 : Nat) : Int)]) (st := []) hO dX11_give_12 rfl (lw_t3 132 rfl rfl) kX11_refuse (T := TX11) rfl (by decide) rfl (cP_refuse h (j := 0) (by decide)) (by decide) rfl rfl rfl (Nat.le_of_ble_eq_true rfl) (fun v14 μ15 hq16 => ?_)
    obtain ⟨e_v14, hR_μ15⟩ := hq16
    refine aw_iret hO dX11_give_15 ?_
    have hw : giveW ν v = 0 := by unfold giveW; rw [if_pos (by omega)]
    exact ⟨_, rfl, by dsimp only; rw [hw, if_neg (by decide)]; exact ⟨e_v14, hR_μ15⟩⟩
theorem dX11_walks_0 : decode cX11_walks 0 = .ok (.aload_n 0, 1) := by decide +kernel
theorem dX11_walks_1 : decode cX11_walks 1 = .ok (.getfield 41, 3) := by decide +kernel
theorem dX11_walks_4 : decode cX11_walks 4 = .ok (.invokevirtual 154, 3) := by decide +kernel
theorem dX11_walks_7 : decode cX11_walks 7 = .ok (.ifCond .ne 9, 3) := by decide +kernel
theorem dX11_walks_10 : decode cX11_walks 10 = .ok (.aload_n 0, 1) := by decide +kernel
theorem dX11_walks_11 : decode cX11_walks 11 = .ok (.iconst 0, 1) := by decide +kernel
theorem dX11_walks_12 : decode cX11_walks 12 = .ok (.invokevirtual 208, 3) := by decide +kernel
theorem dX11_walks_15 : decode cX11_walks 15 = .ok (.ireturn, 1) := by decide +kernel
theorem dX11_walks_16 : decode cX11_walks 16 = .ok (.iload_n 1, 1) := by decide +kernel
theorem dX11_walks_17 : decode cX11_walks 17 = .ok (.ifCond .lt 9, 3) := by decide +kernel
theorem dX11_walks_20 : decode cX11_walks 20 = .ok (.iload_n 1, 1) := by decide +kernel
theorem dX11_walks_21 : decode cX11_walks 21 = .ok (.bipush 20, 2) := by decide +kernel
theorem dX11_walks_23 : decode cX11_walks 23 = .ok (.if_icmp .le 9, 3) := by decide +kernel
theorem dX11_walks_26 : decode cX11_walks 26 = .ok (.aload_n 0, 1) := by decide +kernel
theorem dX11_walks_27 : decode cX11_walks 27 = .ok (.iconst 1, 1) := by decide +kernel
theorem dX11_walks_28 : decode cX11_walks 28 = .ok (.invokevirtual 208, 3) := by decide +kernel
theorem dX11_walks_31 : decode cX11_walks 31 = .ok (.ireturn, 1) := by decide +kernel
theorem dX11_walks_32 : decode cX11_walks 32 = .ok (.aload_n 0, 1) := by decide +kernel
theorem dX11_walks_33 : decode cX11_walks 33 = .ok (.getfield 48, 3) := by decide +kernel
theorem dX11_walks_36 : decode cX11_walks 36 = .ok (.getfield 158, 3) := by decide +kernel
theorem dX11_walks_39 : decode cX11_walks 39 = .ok (.iconst 0, 1) := by decide +kernel
theorem dX11_walks_40 : decode cX11_walks 40 = .ok (.iaload, 1) := by decide +kernel
theorem dX11_walks_41 : decode cX11_walks 41 = .ok (.iload_n 1, 1) := by decide +kernel
theorem dX11_walks_42 : decode cX11_walks 42 = .ok (.if_icmp .ne 9, 3) := by decide +kernel
theorem dX11_walks_45 : decode cX11_walks 45 = .ok (.aload_n 0, 1) := by decide +kernel
theorem dX11_walks_46 : decode cX11_walks 46 = .ok (.iconst 2, 1) := by decide +kernel
theorem dX11_walks_47 : decode cX11_walks 47 = .ok (.invokevirtual 208, 3) := by decide +kernel
theorem dX11_walks_50 : decode cX11_walks 50 = .ok (.ireturn, 1) := by decide +kernel
theorem dX11_walks_51 : decode cX11_walks 51 = .ok (.aload_n 0, 1) := by decide +kernel
theorem dX11_walks_52 : decode cX11_walks 52 = .ok (.getfield 76, 3) := by decide +kernel
theorem dX11_walks_55 : decode cX11_walks 55 = .ok (.aload_n 0, 1) := by decide +kernel
theorem dX11_walks_56 : decode cX11_walks 56 = .ok (.getfield 48, 3) := by decide +kernel
theorem dX11_walks_59 : decode cX11_walks 59 = .ok (.iload_n 1, 1) := by decide +kernel
theorem dX11_walks_60 : decode cX11_walks 60 = .ok (.invokevirtual 211, 3) := by decide +kernel
theorem dX11_walks_63 : decode cX11_walks 63 = .ok (.ifCond .ne 9, 3) := by decide +kernel
theorem dX11_walks_66 : decode cX11_walks 66 = .ok (.aload_n 0, 1) := by decide +kernel
theorem dX11_walks_67 : decode cX11_walks 67 = .ok (.iconst 3, 1) := by decide +kernel
theorem dX11_walks_68 : decode cX11_walks 68 = .ok (.invokevirtual 208, 3) := by decide +kernel
theorem dX11_walks_71 : decode cX11_walks 71 = .ok (.ireturn, 1) := by decide +kernel
theorem dX11_walks_72 : decode cX11_walks 72 = .ok (.aload_n 0, 1) := by decide +kernel
theorem dX11_walks_73 : decode cX11_walks 73 = .ok (.getfield 58, 3) := by decide +kernel
theorem dX11_walks_76 : decode cX11_walks 76 = .ok (.aload_n 0, 1) := by decide +kernel
theorem dX11_walks_77 : decode cX11_walks 77 = .ok (.getfield 48, 3) := by decide +kernel
theorem dX11_walks_80 : decode cX11_walks 80 = .ok (.invokevirtual 215, 3) := by decide +kernel
theorem dX11_walks_83 : decode cX11_walks 83 = .ok (.aload_n 0, 1) := by decide +kernel
theorem dX11_walks_84 : decode cX11_walks 84 = .ok (.getfield 76, 3) := by decide +kernel
theorem dX11_walks_87 : decode cX11_walks 87 = .ok (.aload_n 0, 1) := by decide +kernel
theorem dX11_walks_88 : decode cX11_walks 88 = .ok (.getfield 48, 3) := by decide +kernel
theorem dX11_walks_91 : decode cX11_walks 91 = .ok (.iload_n 1, 1) := by decide +kernel
theorem dX11_walks_92 : decode cX11_walks 92 = .ok (.invokevirtual 219, 3) := by decide +kernel
theorem dX11_walks_95 : decode cX11_walks 95 = .ok (.ireturn, 1) := by decide +kernel
set_option maxRecDepth 100000 in
theorem gC_X11_76_0 {Q : Option AV → Mm → Prop} {K : KT} {cc : ByteArray} {nL d : Nat} {ret : Option FieldType} {pc n : Nat} {ls : List (Option AV)} {st : List AV} {μ : Mm} (hO : KOk PC Q K cc RX11 nL d ret) (hd : decode cc pc = .ok (.getfield 76, 3)) (hn : pc + 3 = n) (kk : AW K n ls (vR 76 :: st) μ) : AW K pc ls (vR 0 :: st) μ := aw_get (f := 9) hO hd hn okX11 (by decide) (lw_t2 54 rfl rfl) (by decide) rfl rfl rfl kk
set_option maxHeartbeats 4000000 in
set_option maxRecDepth 100000 in
theorem cP_walks {μ ν : Mm} (h : Rel μ ν) {v : Int} (hv : InR v) : CtE PC 3 yX11_walks cX11_walks 2 (some .int) [vR 0, vI v] μ (fun r m => if walkW ν v = -1 then r = ((cntB (okW ν v) (ν.1 0 25).toNat : Nat) : Int) ∧ Rel m (mrow (kepM ν) 17 (walkF (ν.1 17) v (okW ν v) (ν.1 0 25).toNat)) else r = -1 ∧ Rel m (refM ν (walkW ν v))) := by
  refine ct_intro [some (vR 0), some (vI v)] RX11 (by decide) rfl XCo rfl (Nat.le_of_ble_eq_true rfl) (fun K hO => ?_)
  obtain ⟨c, hc, hlc1, hlc2, hl3, hl4, hl5⟩ := h.L
  obtain ⟨N, hN, hN1, hN2, hN3⟩ := h.P
  obtain ⟨a, x, ha, hx, ha1, ha2, ha3, ha4⟩ := h.A
  have hnp := h.B.np
  have hnt := h.B.nt
  have hr := h.B.now.rest
  have hN15 := h.N.2.1
  refine aw_aload_n hO dX11_walks_0 rfl rfl ?_
  refine gC_X11_41_0 hO dX11_walks_1 rfl ?_
  refine aw_callVI (as := []) (st := []) hO dX11_walks_4 rfl (lw_t3 96 rfl rfl) kX9_isTold (T := TX9) rfl (by decide) rfl (cJ_isTold h.JR.z) (by decide) rfl rfl rfl (Nat.le_of_ble_eq_true rfl) ?_
  refine aw_ifz_ne (tgt := 16) hO dX11_walks_7 rfl rfl (fun c7 => ?_) (fun c7 => ?_)
  · refine aw_iload_n hO dX11_walks_16 rfl rfl ?_
    refine aw_if_lt (tgt := 26) hO dX11_walks_17 rfl rfl hv (fun c17 => ?_) (fun c17 => ?_)
    · refine aw_aload_n hO dX11_walks_26 rfl rfl ?_
      refine aw_iconst hO dX11_walks_27 rfl ?_
      refine aw_callVE (as := [vI ((1 : Nat) : Int)]) (st := []) hO dX11_walks_28 rfl (lw_t3 132 rfl rfl) kX11_refuse (T := TX11) rfl (by decide) rfl (cP_refuse h (j := 1) (by decide)) (by decide) rfl rfl rfl (Nat.le_of_ble_eq_true rfl) (fun v1 μ2 hq3 => ?_)
      obtain ⟨e_v1, hR_μ2⟩ := hq3
      refine aw_iret hO dX11_walks_31 ?_
      have hw : walkW ν v = 1 := by unfold walkW; rw [if_neg (by omega), if_pos (by omega)]
      exact ⟨_, rfl, by dsimp only; rw [hw, if_neg (by decide)]; exact ⟨e_v1, hR_μ2⟩⟩
    · refine aw_iload_n hO dX11_walks_20 rfl rfl ?_
      refine aw_bipush hO dX11_walks_21 rfl (by decide) (by decide) ?_
      refine aw_icmp_le (tgt := 32) hO dX11_walks_23 rfl rfl hv (inRlit _) (fun c23 => ?_) (fun c23 => ?_)
      · refine aw_aload_n hO dX11_walks_32 rfl rfl ?_
        refine gC_X11_48_0 hO dX11_walks_33 rfl ?_
        refine gC_X11_158_27 hO dX11_walks_36 rfl ?_
        refine aw_iconst hO dX11_walks_39 rfl ?_
        refine aw_ialdn (N := 98) (i := 0) hO dX11_walks_40 rfl (by decide) rfl (by decide) rfl (by decide) ?_
        refine aw_cg h.JR.S.sc.1 ?_
        refine aw_iload_n hO dX11_walks_41 rfl rfl ?_
        refine aw_icmp_ne (tgt := 51) hO dX11_walks_42 rfl rfl ⟨by omega, by omega⟩ hv (fun c42 => ?_) (fun c42 => ?_)
        · refine aw_aload_n hO dX11_walks_51 rfl rfl ?_
          refine gC_X11_76_0 hO dX11_walks_52 rfl ?_
          refine aw_aload_n hO dX11_walks_55 rfl rfl ?_
          refine gC_X11_48_0 hO dX11_walks_56 rfl ?_
          refine aw_iload_n hO dX11_walks_59 rfl rfl ?_
          refine aw_callVI (as := [vR 27, vI v]) (st := []) hO dX11_walks_60 rfl (lw_t3 136 rfl rfl) kX1_canReach (T := TX1) rfl (by decide) rfl (cJ_canReach h.JR (v := v) (by omega) (by omega)) (by decide) rfl rfl rfl (Nat.le_of_ble_eq_true rfl) ?_
          refine aw_ifz_ne (tgt := 72) hO dX11_walks_63 rfl rfl (fun c63 => ?_) (fun c63 => ?_)
          · refine aw_aload_n hO dX11_walks_72 rfl rfl ?_
            refine gC_X11_58_0 hO dX11_walks_73 rfl ?_
            refine aw_aload_n hO dX11_walks_76 rfl rfl ?_
            refine gC_X11_48_0 hO dX11_walks_77 rfl ?_
            refine aw_callVV (as := [vR 27]) (st := []) hO dX11_walks_80 rfl (lw_t3 143 rfl rfl) kX0_keep (T := TX0) rfl (by decide) rfl (ctC_0_keep μ ha3 hx ⟨by omega, by omega⟩) (by decide) rfl rfl rfl (Nat.le_of_ble_eq_true rfl) (fun μ5 hq6 => ?_)
            have e_μ5 := hq6
            have hK : Rel μ5 (kepM ν) := by rw [e_μ5]; exact h.keep ha3
            have hSK : SR (μ5.1 28) (ν.1 17) := by have := hK.S.1; rw [kep17] at this; exact this
            refine aw_aload_n hO dX11_walks_83 rfl rfl ?_
            refine gC_X11_76_0 hO dX11_walks_84 rfl ?_
            refine aw_aload_n hO dX11_walks_87 rfl rfl ?_
            refine gC_X11_48_0 hO dX11_walks_88 rfl ?_
            refine aw_iload_n hO dX11_walks_91 rfl rfl ?_
            refine aw_callVE (as := [vR 27, vI v]) (st := []) hO dX11_walks_92 rfl (lw_t3 148 rfl rfl) kX1_walkTo (T := TX1) rfl (by decide) rfl (cJ_walkTo hK.JR (v := v) (by omega) (by omega)) (by decide) rfl rfl rfl (Nat.le_of_ble_eq_true rfl) (fun v7 μ8 hq9 => ?_)
            obtain ⟨e_v7, hT_μ8⟩ := hq9
            refine aw_iret hO dX11_walks_95 ?_
            have hw : walkW ν v = -1 := by unfold walkW; rw [if_neg (by omega), if_neg (by omega), if_neg (by omega), if_neg]; exact c63.2
            have hn25 : (kepM ν).1 0 25 = ν.1 0 25 := kepM_nk (by decide) (Or.inr (by decide))
            have hT2 := hT_μ8
            rw [okW_kep, kep17, hn25] at hT2
            have hNw : NowOK (walkF (ν.1 17) v (okW ν v) (ν.1 0 25).toNat) := walk_ok h.B.now (by omega) (by omega) (by omega) c63.2
            have hRw : Rel μ8 (mrow (kepM ν) 17 (walkF (ν.1 17) v (okW ν v) (ν.1 0 25).toNat)) := by
              refine hK.state (hT2.1.q.mono (fun k i e => Or.inr e)) (Fq.rf.rw (fun _ => Or.inr rfl)) (by rw [hT2.1.2]) ?_
              have hKS := hK.S
              rw [hn25] at hKS ⊢
              rw [mrow_at]
              refine hKS.to hT2.2.1 hT2.2.2 (fun i hi => by rw [kep17]; unfold walkF; rw [if_neg (by omega), if_neg (by omega), if_neg (by omega)]) hNw (fun p hp hn => ?_)
              have := hKS.2.2.2.2 p hp hn
              rw [kep17] at this
              unfold walkF
              rw [if_neg (by omega), if_neg (by omega), if_neg (by omega)]
              exact this
            exact ⟨_, rfl, by dsimp only; rw [if_pos hw]; exact ⟨by rw [e_v7, okW_kep, hn25], hRw⟩⟩
          · refine aw_aload_n hO dX11_walks_66 rfl rfl ?_
            refine aw_iconst hO dX11_walks_67 rfl ?_
            refine aw_callVE (as := [vI ((3 : Nat) : Int)]) (st := []) hO dX11_walks_68 rfl (lw_t3 132 rfl rfl) kX11_refuse (T := TX11) rfl (by decide) rfl (cP_refuse h (j := 3) (by decide)) (by decide) rfl rfl rfl (Nat.le_of_ble_eq_true rfl) (fun v10 μ11 hq12 => ?_)
            obtain ⟨e_v10, hR_μ11⟩ := hq12
            refine aw_iret hO dX11_walks_71 ?_
            have hw : walkW ν v = 3 := by unfold walkW; rw [if_neg (by omega), if_neg (by omega), if_neg (by omega), if_pos]; exact Int.not_le.mp (fun q => c63 ⟨by omega, Int.not_lt.mpr q⟩)
            exact ⟨_, rfl, by dsimp only; rw [hw, if_neg (by decide)]; exact ⟨e_v10, hR_μ11⟩⟩
        · refine aw_aload_n hO dX11_walks_45 rfl rfl ?_
          refine aw_iconst hO dX11_walks_46 rfl ?_
          refine aw_callVE (as := [vI ((2 : Nat) : Int)]) (st := []) hO dX11_walks_47 rfl (lw_t3 132 rfl rfl) kX11_refuse (T := TX11) rfl (by decide) rfl (cP_refuse h (j := 2) (by decide)) (by decide) rfl rfl rfl (Nat.le_of_ble_eq_true rfl) (fun v13 μ14 hq15 => ?_)
          obtain ⟨e_v13, hR_μ14⟩ := hq15
          refine aw_iret hO dX11_walks_50 ?_
          have hw : walkW ν v = 2 := by unfold walkW; rw [if_neg (by omega), if_neg (by omega), if_pos (by omega)]
          exact ⟨_, rfl, by dsimp only; rw [hw, if_neg (by decide)]; exact ⟨e_v13, hR_μ14⟩⟩
      · refine aw_aload_n hO dX11_walks_26 rfl rfl ?_
        refine aw_iconst hO dX11_walks_27 rfl ?_
        refine aw_callVE (as := [vI ((1 : Nat) : Int)]) (st := []) hO dX11_walks_28 rfl (lw_t3 132 rfl rfl) kX11_refuse (T := TX11) rfl (by decide) rfl (cP_refuse h (j := 1) (by decide)) (by decide) rfl rfl rfl (Nat.le_of_ble_eq_true rfl) (fun v16 μ17 hq18 => ?_)
        obtain ⟨e_v16, hR_μ17⟩ := hq18
        refine aw_iret hO dX11_walks_31 ?_
        have hw : walkW ν v = 1 := by unfold walkW; rw [if_neg (by omega), if_pos (by omega)]
        exact ⟨_, rfl, by dsimp only; rw [hw, if_neg (by decide)]; exact ⟨e_v16, hR_μ17⟩⟩
  · refine aw_aload_n hO dX11_walks_10 rfl rfl ?_
    refine aw_iconst hO dX11_walks_11 rfl ?_
    refine aw_callVE (as := [vI ((0 : Nat) : Int)]) (st := []) hO dX11_walks_12 rfl (lw_t3 132 rfl rfl) kX11_refuse (T := TX11) rfl (by decide) rfl (cP_refuse h (j := 0) (by decide)) (by decide) rfl rfl rfl (Nat.le_of_ble_eq_true rfl) (fun v19 μ20 hq21 => ?_)
    obtain ⟨e_v19, hR_μ20⟩ := hq21
    refine aw_iret hO dX11_walks_15 ?_
    have hw : walkW ν v = 0 := by unfold walkW; rw [if_pos (by omega)]
    exact ⟨_, rfl, by dsimp only; rw [hw, if_neg (by decide)]; exact ⟨e_v19, hR_μ20⟩⟩
