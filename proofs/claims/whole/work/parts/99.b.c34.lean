/-! ## acts of the class (3) -/
theorem dX11_years_0 : decode cX11_years 0 = .ok (.aload_n 0, 1) := by decide +kernel
theorem dX11_years_1 : decode cX11_years 1 = .ok (.getfield 41, 3) := by decide +kernel
theorem dX11_years_4 : decode cX11_years 4 = .ok (.invokevirtual 154, 3) := by decide +kernel
theorem dX11_years_7 : decode cX11_years 7 = .ok (.ifCond .eq 32, 3) := by decide +kernel
theorem dX11_years_10 : decode cX11_years 10 = .ok (.iload_n 1, 1) := by decide +kernel
theorem dX11_years_11 : decode cX11_years 11 = .ok (.iconst 1, 1) := by decide +kernel
theorem dX11_years_12 : decode cX11_years 12 = .ok (.if_icmp .lt 27, 3) := by decide +kernel
theorem dX11_years_15 : decode cX11_years 15 = .ok (.iload_n 1, 1) := by decide +kernel
theorem dX11_years_16 : decode cX11_years 16 = .ok (.bipush 60, 2) := by decide +kernel
theorem dX11_years_18 : decode cX11_years 18 = .ok (.if_icmp .gt 21, 3) := by decide +kernel
theorem dX11_years_21 : decode cX11_years 21 = .ok (.aload_n 0, 1) := by decide +kernel
theorem dX11_years_22 : decode cX11_years 22 = .ok (.getfield 48, 3) := by decide +kernel
theorem dX11_years_25 : decode cX11_years 25 = .ok (.getfield 158, 3) := by decide +kernel
theorem dX11_years_28 : decode cX11_years 28 = .ok (.bipush 6, 2) := by decide +kernel
theorem dX11_years_30 : decode cX11_years 30 = .ok (.iaload, 1) := by decide +kernel
theorem dX11_years_31 : decode cX11_years 31 = .ok (.iload_n 1, 1) := by decide +kernel
theorem dX11_years_32 : decode cX11_years 32 = .ok (.iadd, 1) := by decide +kernel
theorem dX11_years_33 : decode cX11_years 33 = .ok (.sipush 999, 3) := by decide +kernel
theorem dX11_years_36 : decode cX11_years 36 = .ok (.if_icmp .le 5, 3) := by decide +kernel
theorem dX11_years_39 : decode cX11_years 39 = .ok (.iconst (-1), 1) := by decide +kernel
theorem dX11_years_40 : decode cX11_years 40 = .ok (.ireturn, 1) := by decide +kernel
theorem dX11_years_41 : decode cX11_years 41 = .ok (.aload_n 0, 1) := by decide +kernel
theorem dX11_years_42 : decode cX11_years 42 = .ok (.getfield 76, 3) := by decide +kernel
theorem dX11_years_45 : decode cX11_years 45 = .ok (.lload_n 2, 1) := by decide +kernel
theorem dX11_years_46 : decode cX11_years 46 = .ok (.putfield 241, 3) := by decide +kernel
theorem dX11_years_49 : decode cX11_years 49 = .ok (.iconst 0, 1) := by decide +kernel
theorem dX11_years_50 : decode cX11_years 50 = .ok (.istore 4, 2) := by decide +kernel
theorem dX11_years_52 : decode cX11_years 52 = .ok (.iload 4, 2) := by decide +kernel
theorem dX11_years_54 : decode cX11_years 54 = .ok (.iload_n 1, 1) := by decide +kernel
theorem dX11_years_55 : decode cX11_years 55 = .ok (.if_icmp .ge 35, 3) := by decide +kernel
theorem dX11_years_58 : decode cX11_years 58 = .ok (.aload_n 0, 1) := by decide +kernel
theorem dX11_years_59 : decode cX11_years 59 = .ok (.getfield 58, 3) := by decide +kernel
theorem dX11_years_62 : decode cX11_years 62 = .ok (.aload_n 0, 1) := by decide +kernel
theorem dX11_years_63 : decode cX11_years 63 = .ok (.getfield 48, 3) := by decide +kernel
theorem dX11_years_66 : decode cX11_years 66 = .ok (.invokevirtual 215, 3) := by decide +kernel
theorem dX11_years_69 : decode cX11_years 69 = .ok (.aload_n 0, 1) := by decide +kernel
theorem dX11_years_70 : decode cX11_years 70 = .ok (.getfield 76, 3) := by decide +kernel
theorem dX11_years_73 : decode cX11_years 73 = .ok (.aload_n 0, 1) := by decide +kernel
theorem dX11_years_74 : decode cX11_years 74 = .ok (.getfield 48, 3) := by decide +kernel
theorem dX11_years_77 : decode cX11_years 77 = .ok (.aload_n 0, 1) := by decide +kernel
theorem dX11_years_78 : decode cX11_years 78 = .ok (.getfield 105, 3) := by decide +kernel
theorem dX11_years_81 : decode cX11_years 81 = .ok (.invokevirtual 245, 3) := by decide +kernel
theorem dX11_years_84 : decode cX11_years 84 = .ok (.iinc 4 1, 3) := by decide +kernel
theorem dX11_years_87 : decode cX11_years 87 = .ok (.goto (-35), 3) := by decide +kernel
theorem dX11_years_90 : decode cX11_years 90 = .ok (.aload_n 0, 1) := by decide +kernel
theorem dX11_years_91 : decode cX11_years 91 = .ok (.getfield 48, 3) := by decide +kernel
theorem dX11_years_94 : decode cX11_years 94 = .ok (.getfield 158, 3) := by decide +kernel
theorem dX11_years_97 : decode cX11_years 97 = .ok (.bipush 6, 2) := by decide +kernel
theorem dX11_years_99 : decode cX11_years 99 = .ok (.iaload, 1) := by decide +kernel
theorem dX11_years_100 : decode cX11_years 100 = .ok (.ireturn, 1) := by decide +kernel
set_option maxHeartbeats 4000000 in
set_option maxRecDepth 100000 in
theorem cP_years {μ ν : Mm} (h : Rel μ ν) {v y : Int} (hv : InR v) : CtE PC 7 yX11_years cX11_years 5 (some .int) [vR 0, vI v, vL y] μ (fun r m => if ν.1 0 25 ≠ 0 ∧ (1 ≤ v ∧ v ≤ 60) ∧ ν.1 17 36 + v ≤ 999 then r = (yrsD ν y v.toNat).1.1 36 ∧ ∀ m0, InY ν (yrsD ν y v.toNat).1.1 (yrsD ν y v.toNat).2.1 (yrsD ν y v.toNat).2.2 m0 → Rel m m0 else r = -1 ∧ Rel m ν) := by
  refine ct_intro [some (vR 0), some (vI v), some (vL y), none, none] RX11 (by decide) rfl XCo rfl (Nat.le_of_ble_eq_true rfl) (fun K hO => ?_)
  obtain ⟨c, hc, hlc1, hlc2, hl3, hl4, hl5⟩ := h.L
  obtain ⟨N, hN, hN1, hN2, hN3⟩ := h.P
  obtain ⟨a, x, ha, hx, ha1, ha2, ha3, ha4⟩ := h.A
  have hnp := h.B.np
  have hnt := h.B.nt
  have hr := h.B.now.rest
  have hN15 := h.N.2.1
  have hG := h.MG
  have hA2 := h.a2
  have lp : ν.1 0 25 ≠ 0 → 1 ≤ v ∧ v ≤ 60 → ν.1 17 36 + v ≤ 999 → ∀ (c0 i : Nat) (m n : Mm), ((i + c0 : Nat) : Int) = v → InY ν (yrsD ν y i).1.1 (yrsD ν y i).2.1 (yrsD ν y i).2.2 n → Rel m n → m.2.1 = (yrsD ν y i).1.2 → AW K 52 [some (vR 0), some (vI v), some (vL y), none, some (vI ((i : Nat) : Int))] [] m := by
    intro hp0 hv1 hv2 c0
    induction c0 with
    | zero =>
      intro i m n hi hI hRm hmy
      refine aw_iload hO dX11_years_52 rfl rfl ?_
      refine aw_iload_n hO dX11_years_54 rfl rfl ?_
      refine aw_icmp_ge (tgt := 90) hO dX11_years_55 rfl rfl (inRn (by omega)) hv (fun c55 => ?_) (fun c55 => ?_)
      · refine aw_aload_n hO dX11_years_90 rfl rfl ?_
        refine gC_X11_48_0 hO dX11_years_91 rfl ?_
        refine gC_X11_158_27 hO dX11_years_94 rfl ?_
        refine aw_bipush hO dX11_years_97 rfl (by decide) (by decide) ?_
        refine aw_ialdn (N := 98) (i := 6) hO dX11_years_99 rfl (by decide) rfl (by decide) rfl (by decide) ?_
        refine aw_cg (show m.1 28 6 = (yrsD ν y i).1.1 36 by rw [hRm.S.1.yr, hI.1]) ?_
        refine aw_iret hO dX11_years_100 ?_
        exact ⟨_, rfl, by dsimp only; rw [if_pos ⟨hp0, hv1, hv2⟩, show v.toNat = i by omega]; exact ⟨rfl, fun m0 h0 => hRm.fr Fq.rf rfl (hI.fq h0)⟩⟩
      · exact absurd c55 (by omega)
    | succ c0 ih =>
      intro i m n hi hI hRm hmy
      have hok := yrsD_ok hG hp0 hA2 y i (by omega)
      obtain ⟨a2, x2, ha2b, hx2, g1, g2, g3, -⟩ := hRm.A
      refine aw_iload hO dX11_years_52 rfl rfl ?_
      refine aw_iload_n hO dX11_years_54 rfl rfl ?_
      refine aw_icmp_ge (tgt := 90) hO dX11_years_55 rfl rfl (inRn (by omega)) hv (fun c55 => ?_) (fun c55 => ?_)
      · exact absurd c55 (by omega)
      · refine aw_aload_n hO dX11_years_58 rfl rfl ?_
        refine gC_X11_58_0 hO dX11_years_59 rfl ?_
        refine aw_aload_n hO dX11_years_62 rfl rfl ?_
        refine gC_X11_48_0 hO dX11_years_63 rfl ?_
        refine aw_callVV (as := [vR 27]) (st := []) hO dX11_years_66 rfl (lw_t3 143 rfl rfl) kX0_keep (T := TX0) rfl (by decide) rfl (ctC_0_keep m g3 hx2 ⟨by omega, by omega⟩) (by decide) rfl rfl rfl (Nat.le_of_ble_eq_true rfl) (fun μ2 hq3 => ?_)
        have hK : Rel μ2 (kepM n) := by rw [hq3]; exact hRm.keep g3
        have hIK := hI.kep
        have hyK : (kepM n).1 17 36 = ν.1 17 36 + i := by rw [hIK.1]; exact hok.2.1
        have hf30 : (kepM n).1 0 30 = ν.1 0 30 := hIK.2.2.2 0 30 (by decide) (by decide) (by decide) (by decide) (by decide)
        have hf25 : (kepM n).1 0 25 = ν.1 0 25 := hIK.2.2.2 0 25 (by decide) (by decide) (by decide) (by decide) (by decide)
        have hf15 : (kepM n).1 15 = ν.1 15 := funext fun j => hIK.2.2.2 15 j (by decide) (by decide) (by decide) (by decide) (by omega)
        have hmy1 : μ2.2.1 = (yrsD ν y i).1.2 := by rw [hq3]; exact hmy
        refine aw_aload_n hO dX11_years_69 rfl rfl ?_
        refine gC_X11_76_0 hO dX11_years_70 rfl ?_
        refine aw_aload_n hO dX11_years_73 rfl rfl ?_
        refine gC_X11_48_0 hO dX11_years_74 rfl ?_
        refine aw_aload_n hO dX11_years_77 rfl rfl ?_
        refine gC_X11_105_0 hO dX11_years_78 rfl ?_
        refine aw_cg (show μ2.1 0 15 = ν.1 0 30 by rw [hK.N.1]; exact hf30) ?_
        refine aw_callVV (as := [vR 27, vI (ν.1 0 30)]) (st := []) hO dX11_years_81 rfl (lw_t4 88 rfl rfl) kX1_liveYear (T := TX1) rfl (by decide) rfl (cJ_liveYear hK.JR hf30 (by omega) (by omega) (by rw [hf25]; exact hp0) hK.S.2.1 (by omega)) (by decide) rfl rfl rfl (Nat.le_of_ble_eq_true rfl) (fun μ5 hq6 => ?_)
        obtain ⟨hF, hS, hL, hM⟩ := hq6
        rw [hmy1, hIK.1] at hS hL hM
        rw [drawF_W hf25 hf30 hf15] at hS hL hM
        have hD : NowOK (drawF ν (yrsD ν y i).1).1 := drawF_ok h.B hp0 hok.1
        have hWE : EqW (wN ν (drawF ν (yrsD ν y i).1).1) (wN (kepM n) (drawF ν (yrsD ν y i).1).1) := (InY.row (G := (drawF ν (yrsD ν y i).1).1) hIK).E
        rw [show ((yrsD ν y i).1.1, (yrsD ν y i).1.2) = (yrsD ν y i).1 from rfl, passF_W hWE] at hS hL
        rw [show ((yrsD ν y i).1.1, (yrsD ν y i).1.2) = (yrsD ν y i).1 from rfl] at hM
        have hB := (MG_N hG hD).1
        have h36 : (wN ν (drawF ν (yrsD ν y i).1).1).1 17 36 = ν.1 17 36 + i := by unfold wN; rw [mrow_at, drawF_36 h.B hp0 (by omega)]; exact hok.2.1
        have hR2 : Rel μ5 (mrow (kepM n) 17 (passF (wN ν (drawF ν (yrsD ν y i).1).1))) := hK.yearG hF.1 hF.2 hS hL (pass_ok hB (by omega)) (by rw [pass36' hB]; omega) (fun p hp => pass_0 hp)
        have hI2 : InY ν (yrsD ν y (i + 1)).1.1 (yrsD ν y (i + 1)).2.1 (yrsD ν y (i + 1)).2.2 (mrow (kepM n) 17 (passF (wN ν (drawF ν (yrsD ν y i).1).1))) := hIK.row
        refine aw_iinc (ls' := [some (vR 0), some (vI v), some (vL y), none, some (vI (((i : Nat) : Int) + 1))]) hO dX11_years_84 rfl rfl rfl rfl ?_
        refine aw_lsq (ls' := [some (vR 0), some (vI v), some (vL y), none, some (vI (((i + 1) : Nat) : Int))]) rfl ?_
        refine aw_goto (tgt := 52) hO dX11_years_87 rfl ?_
        refine aw_lsq (ls' := [some (vR 0), some (vI v), some (vL y), none, some (vI ((i + 1 : Nat) : Int))]) rfl ?_
        exact ih (i + 1) μ5 _ (by omega) hI2 hR2 hM
  refine aw_aload_n hO dX11_years_0 rfl rfl ?_
  refine gC_X11_41_0 hO dX11_years_1 rfl ?_
  refine aw_callVI (as := []) (st := []) hO dX11_years_4 rfl (lw_t3 96 rfl rfl) kX9_isTold (T := TX9) rfl (by decide) rfl (cJ_isTold h.JR.z) (by decide) rfl rfl rfl (Nat.le_of_ble_eq_true rfl) ?_
  refine aw_ifz_eq (tgt := 39) hO dX11_years_7 rfl rfl (fun c7 => ?_) (fun c7 => ?_)
  · refine aw_iconst hO dX11_years_39 rfl ?_
    refine aw_iret hO dX11_years_40 ?_
    exact ⟨_, rfl, by dsimp only; rw [if_neg (by omega)]; exact ⟨rfl, h⟩⟩
  · refine aw_iload_n hO dX11_years_10 rfl rfl ?_
    refine aw_iconst hO dX11_years_11 rfl ?_
    refine aw_icmp_lt (tgt := 39) hO dX11_years_12 rfl rfl hv (inRlit _) (fun c12 => ?_) (fun c12 => ?_)
    · refine aw_iconst hO dX11_years_39 rfl ?_
      refine aw_iret hO dX11_years_40 ?_
      exact ⟨_, rfl, by dsimp only; rw [if_neg (by omega)]; exact ⟨rfl, h⟩⟩
    · refine aw_iload_n hO dX11_years_15 rfl rfl ?_
      refine aw_bipush hO dX11_years_16 rfl (by decide) (by decide) ?_
      refine aw_icmp_gt (tgt := 39) hO dX11_years_18 rfl rfl hv (inRlit _) (fun c18 => ?_) (fun c18 => ?_)
      · refine aw_iconst hO dX11_years_39 rfl ?_
        refine aw_iret hO dX11_years_40 ?_
        exact ⟨_, rfl, by dsimp only; rw [if_neg (by omega)]; exact ⟨rfl, h⟩⟩
      · refine aw_aload_n hO dX11_years_21 rfl rfl ?_
        refine gC_X11_48_0 hO dX11_years_22 rfl ?_
        refine gC_X11_158_27 hO dX11_years_25 rfl ?_
        refine aw_bipush hO dX11_years_28 rfl (by decide) (by decide) ?_
        refine aw_ialdn (N := 98) (i := 6) hO dX11_years_30 rfl (by decide) rfl (by decide) rfl (by decide) ?_
        refine aw_cg h.JR.S.yr ?_
        refine aw_iload_n hO dX11_years_31 rfl rfl ?_
        refine aw_iadd hO dX11_years_32 rfl ?_
        refine aw_sipush hO dX11_years_33 rfl (by decide) (by decide) ?_
        refine aw_icmp_le (tgt := 41) hO dX11_years_36 rfl rfl ⟨by omega, by omega⟩ (inRlit _) (fun c36 => ?_) (fun c36 => ?_)
        · refine aw_aload_n hO dX11_years_41 rfl rfl ?_
          refine gC_X11_76_0 hO dX11_years_42 rfl ?_
          refine aw_lload_n hO dX11_years_45 rfl rfl ?_
          refine pC_drawnN hO dX11_years_46 rfl ?_
          refine aw_mm (fun μ7 e_μ7 => ?_)
          refine aw_iconst hO dX11_years_49 rfl ?_
          refine aw_istore (ls' := [some (vR 0), some (vI v), some (vL y), none, some (vI 0)]) hO dX11_years_50 rfl (Nat.le_of_ble_eq_true rfl) rfl rfl ?_
          refine aw_lsq (ls' := [some (vR 0), some (vI v), some (vL y), none, some (vI ((0 : Nat) : Int))]) rfl ?_
          exact lp c7 ⟨c12, c18⟩ c36 v.toNat 0 μ7 ν (by omega) ⟨rfl, rfl, rfl, fun _ _ _ _ _ _ _ => rfl⟩ (h.fr (by rw [e_μ7]; exact Fq.rf) (by rw [e_μ7]; rfl) Fq.rf) (by rw [e_μ7]; rfl)
        · refine aw_iconst hO dX11_years_39 rfl ?_
          refine aw_iret hO dX11_years_40 ?_
          exact ⟨_, rfl, by dsimp only; rw [if_neg (by omega)]; exact ⟨rfl, h⟩⟩
theorem dX11_leaves_0 : decode cX11_leaves 0 = .ok (.aload_n 0, 1) := by decide +kernel
theorem dX11_leaves_1 : decode cX11_leaves 1 = .ok (.getfield 41, 3) := by decide +kernel
theorem dX11_leaves_4 : decode cX11_leaves 4 = .ok (.iload_n 1, 1) := by decide +kernel
theorem dX11_leaves_5 : decode cX11_leaves 5 = .ok (.invokevirtual 164, 3) := by decide +kernel
theorem dX11_leaves_8 : decode cX11_leaves 8 = .ok (.ifCond .ne 9, 3) := by decide +kernel
theorem dX11_leaves_11 : decode cX11_leaves 11 = .ok (.aload_n 0, 1) := by decide +kernel
theorem dX11_leaves_12 : decode cX11_leaves 12 = .ok (.iconst 0, 1) := by decide +kernel
theorem dX11_leaves_13 : decode cX11_leaves 13 = .ok (.invokevirtual 208, 3) := by decide +kernel
theorem dX11_leaves_16 : decode cX11_leaves 16 = .ok (.ireturn, 1) := by decide +kernel
theorem dX11_leaves_17 : decode cX11_leaves 17 = .ok (.aload_n 0, 1) := by decide +kernel
theorem dX11_leaves_18 : decode cX11_leaves 18 = .ok (.getfield 48, 3) := by decide +kernel
theorem dX11_leaves_21 : decode cX11_leaves 21 = .ok (.getfield 158, 3) := by decide +kernel
theorem dX11_leaves_24 : decode cX11_leaves 24 = .ok (.iconst 3, 1) := by decide +kernel
theorem dX11_leaves_25 : decode cX11_leaves 25 = .ok (.iaload, 1) := by decide +kernel
theorem dX11_leaves_26 : decode cX11_leaves 26 = .ok (.iconst 2, 1) := by decide +kernel
theorem dX11_leaves_27 : decode cX11_leaves 27 = .ok (.if_icmp .ge 9, 3) := by decide +kernel
theorem dX11_leaves_30 : decode cX11_leaves 30 = .ok (.aload_n 0, 1) := by decide +kernel
theorem dX11_leaves_31 : decode cX11_leaves 31 = .ok (.iconst 3, 1) := by decide +kernel
theorem dX11_leaves_32 : decode cX11_leaves 32 = .ok (.invokevirtual 208, 3) := by decide +kernel
theorem dX11_leaves_35 : decode cX11_leaves 35 = .ok (.ireturn, 1) := by decide +kernel
theorem dX11_leaves_36 : decode cX11_leaves 36 = .ok (.aload_n 0, 1) := by decide +kernel
theorem dX11_leaves_37 : decode cX11_leaves 37 = .ok (.getfield 58, 3) := by decide +kernel
theorem dX11_leaves_40 : decode cX11_leaves 40 = .ok (.aload_n 0, 1) := by decide +kernel
theorem dX11_leaves_41 : decode cX11_leaves 41 = .ok (.getfield 48, 3) := by decide +kernel
theorem dX11_leaves_44 : decode cX11_leaves 44 = .ok (.invokevirtual 215, 3) := by decide +kernel
theorem dX11_leaves_47 : decode cX11_leaves 47 = .ok (.aload_n 0, 1) := by decide +kernel
theorem dX11_leaves_48 : decode cX11_leaves 48 = .ok (.getfield 48, 3) := by decide +kernel
theorem dX11_leaves_51 : decode cX11_leaves 51 = .ok (.getfield 158, 3) := by decide +kernel
theorem dX11_leaves_54 : decode cX11_leaves 54 = .ok (.iconst 3, 1) := by decide +kernel
theorem dX11_leaves_55 : decode cX11_leaves 55 = .ok (.dup2, 1) := by decide +kernel
theorem dX11_leaves_56 : decode cX11_leaves 56 = .ok (.iaload, 1) := by decide +kernel
theorem dX11_leaves_57 : decode cX11_leaves 57 = .ok (.iconst 2, 1) := by decide +kernel
theorem dX11_leaves_58 : decode cX11_leaves 58 = .ok (.isub, 1) := by decide +kernel
theorem dX11_leaves_59 : decode cX11_leaves 59 = .ok (.iastore, 1) := by decide +kernel
theorem dX11_leaves_60 : decode cX11_leaves 60 = .ok (.aload_n 0, 1) := by decide +kernel
theorem dX11_leaves_61 : decode cX11_leaves 61 = .ok (.getfield 48, 3) := by decide +kernel
theorem dX11_leaves_64 : decode cX11_leaves 64 = .ok (.iload_n 1, 1) := by decide +kernel
theorem dX11_leaves_65 : decode cX11_leaves 65 = .ok (.invokevirtual 235, 3) := by decide +kernel
theorem dX11_leaves_68 : decode cX11_leaves 68 = .ok (.aload_n 0, 1) := by decide +kernel
theorem dX11_leaves_69 : decode cX11_leaves 69 = .ok (.getfield 48, 3) := by decide +kernel
theorem dX11_leaves_72 : decode cX11_leaves 72 = .ok (.iload_n 1, 1) := by decide +kernel
theorem dX11_leaves_73 : decode cX11_leaves 73 = .ok (.invokevirtual 185, 3) := by decide +kernel
theorem dX11_leaves_76 : decode cX11_leaves 76 = .ok (.ifCond .eq 7, 3) := by decide +kernel
theorem dX11_leaves_79 : decode cX11_leaves 79 = .ok (.iconst 1, 1) := by decide +kernel
theorem dX11_leaves_80 : decode cX11_leaves 80 = .ok (.goto 4, 3) := by decide +kernel
theorem dX11_leaves_83 : decode cX11_leaves 83 = .ok (.iconst 0, 1) := by decide +kernel
theorem dX11_leaves_84 : decode cX11_leaves 84 = .ok (.ireturn, 1) := by decide +kernel
set_option maxHeartbeats 4000000 in
set_option maxRecDepth 100000 in
theorem cP_leaves {μ ν : Mm} (h : Rel μ ν) {v : Int} (hv : InR v) : CtE PC 3 yX11_leaves cX11_leaves 2 (some .int) [vR 0, vI v] μ (fun r m => if leavW ν v = -1 then r = (if hasB (bXor (ν.1 17 31) (bShl 1 v)) v.toNat = true then 1 else 0) ∧ Rel m (mst (mst (kepM ν) 17 33 (ν.1 17 33 - 2)) 17 31 (bXor (ν.1 17 31) (bShl 1 v))) else r = -1 ∧ Rel m (refM ν (leavW ν v))) := by
  refine ct_intro [some (vR 0), some (vI v)] RX11 (by decide) rfl XCo rfl (Nat.le_of_ble_eq_true rfl) (fun K hO => ?_)
  obtain ⟨c, hc, hlc1, hlc2, hl3, hl4, hl5⟩ := h.L
  obtain ⟨N, hN, hN1, hN2, hN3⟩ := h.P
  obtain ⟨a, x, ha, hx, ha1, ha2, ha3, ha4⟩ := h.A
  have hnp := h.B.np
  have hnt := h.B.nt
  have hr := h.B.now.rest
  have hN15 := h.N.2.1
  refine aw_aload_n hO dX11_leaves_0 rfl rfl ?_
  refine gC_X11_41_0 hO dX11_leaves_1 rfl ?_
  refine aw_iload_n hO dX11_leaves_4 rfl rfl ?_
  refine aw_callVI (as := [vI v]) (st := []) hO dX11_leaves_5 rfl (lw_t3 170 rfl rfl) kX9_hasPerson (T := TX9) rfl (by decide) rfl (cJ_hasPerson h.JR.z hv) (by decide) rfl rfl rfl (Nat.le_of_ble_eq_true rfl) ?_
  refine aw_ifz_ne (tgt := 17) hO dX11_leaves_8 rfl rfl (fun c8 => ?_) (fun c8 => ?_)
  · obtain ⟨p, hpe⟩ := Int.eq_ofNat_of_zero_le c8.1
    subst hpe
    refine aw_aload_n hO dX11_leaves_17 rfl rfl ?_
    refine gC_X11_48_0 hO dX11_leaves_18 rfl ?_
    refine gC_X11_158_27 hO dX11_leaves_21 rfl ?_
    refine aw_iconst hO dX11_leaves_24 rfl ?_
    refine aw_ialdn (N := 98) (i := 3) hO dX11_leaves_25 rfl (by decide) rfl (by decide) rfl (by decide) ?_
    refine aw_cg h.JR.S.sc.2.2.2.1 ?_
    refine aw_iconst hO dX11_leaves_26 rfl ?_
    refine aw_icmp_ge (tgt := 36) hO dX11_leaves_27 rfl rfl ⟨by omega, by omega⟩ (inRlit _) (fun c27 => ?_) (fun c27 => ?_)
    · refine aw_aload_n hO dX11_leaves_36 rfl rfl ?_
      refine gC_X11_58_0 hO dX11_leaves_37 rfl ?_
      refine aw_aload_n hO dX11_leaves_40 rfl rfl ?_
      refine gC_X11_48_0 hO dX11_leaves_41 rfl ?_
      refine aw_callVV (as := [vR 27]) (st := []) hO dX11_leaves_44 rfl (lw_t3 143 rfl rfl) kX0_keep (T := TX0) rfl (by decide) rfl (ctC_0_keep μ ha3 hx ⟨by omega, by omega⟩) (by decide) rfl rfl rfl (Nat.le_of_ble_eq_true rfl) (fun μ2 hq3 => ?_)
      have e_μ2 := hq3
      have hK : Rel μ2 (kepM ν) := by rw [e_μ2]; exact h.keep ha3
      have hSK : SR (μ2.1 28) (ν.1 17) := by have := hK.S.1; rw [kep17] at this; exact this
      refine aw_aload_n hO dX11_leaves_47 rfl rfl ?_
      refine gC_X11_48_0 hO dX11_leaves_48 rfl ?_
      refine gC_X11_158_27 hO dX11_leaves_51 rfl ?_
      refine aw_iconst hO dX11_leaves_54 rfl ?_
      refine aw_dup2 hO dX11_leaves_55 rfl rfl rfl ?_
      refine aw_ialdn (N := 98) (i := 3) hO dX11_leaves_56 rfl (by decide) rfl (by decide) rfl (by decide) ?_
      refine aw_cg hSK.sc.2.2.2.1 ?_
      refine aw_iconst hO dX11_leaves_57 rfl ?_
      refine aw_isub hO dX11_leaves_58 rfl ?_
      refine aw_iastn (N := 98) (i := 3) hO dX11_leaves_59 rfl (by decide) rfl (by decide) rfl (by decide) ?_
      refine aw_mm (fun μ4 e_μ4 => ?_)
      have hN2 : NowOK (fu (ν.1 17) 33 (ν.1 17 33 - 2)) := h.B.now.c33 (by omega) (by omega)
      have hR2 : Rel μ4 (mst (kepM ν) 17 33 (ν.1 17 33 - 2)) := by rw [e_μ4]; exact hK.up (by decide) (by decide) rfl (by decide) (by decide) (by rw [kep17]; exact hN2)
      have hS2 : SR (μ4.1 28) (fu (ν.1 17) 33 (ν.1 17 33 - 2)) := by have := hR2.S.1; rw [mst_fu, kep17] at this; exact this
      refine aw_aload_n hO dX11_leaves_60 rfl rfl ?_
      refine gC_X11_48_0 hO dX11_leaves_61 rfl ?_
      refine aw_iload_n hO dX11_leaves_64 rfl rfl ?_
      refine aw_callVV (as := [vI ((p : Nat) : Int)]) (st := []) hO dX11_leaves_65 rfl (lw_t3 204 rfl rfl) kX7_move (T := TX7) rfl (by decide) rfl (ctC_7_move μ4 sob27 p) (by decide) rfl rfl rfl (Nat.le_of_ble_eq_true rfl) (fun μ6 hq7 => ?_)
      have e_μ6 := hq7
      rw [show μ4.1 28 7 = ν.1 17 31 from hS2.aw] at e_μ6
      have hx3 := xor63 hr.2.2.1.1 hr.2.2.1.2 (p := p) (by omega)
      have hN3 : NowOK (fu (fu (ν.1 17) 33 (ν.1 17 33 - 2)) 31 (bXor (ν.1 17 31) (bShl 1 ((p : Nat) : Int)))) := hN2.upd (fun _ => by omega) (fun _ _ => by omega) (fun _ _ => by omega) (fun _ => by omega) (fun _ => by omega) (fun _ => hx3) (fun _ _ => by omega)
      have hR3 : Rel μ6 (mst (mst (kepM ν) 17 33 (ν.1 17 33 - 2)) 17 31 (bXor (ν.1 17 31) (bShl 1 ((p : Nat) : Int)))) := by rw [e_μ6]; exact hR2.up (by decide) (by decide) rfl (by decide) (by decide) (by rw [mst_fu, kep17]; exact hN3)
      have hS3 : SR (μ6.1 28) (fu (fu (ν.1 17) 33 (ν.1 17 33 - 2)) 31 (bXor (ν.1 17 31) (bShl 1 ((p : Nat) : Int)))) := by have := hR3.S.1; rw [mst_fu, mst_fu, kep17] at this; exact this
      refine aw_aload_n hO dX11_leaves_68 rfl rfl ?_
      refine gC_X11_48_0 hO dX11_leaves_69 rfl ?_
      refine aw_iload_n hO dX11_leaves_72 rfl rfl ?_
      refine aw_callVI (as := [vI ((p : Nat) : Int)]) (st := []) hO dX11_leaves_73 rfl (lw_t3 208 rfl rfl) kX7_isAway (T := TX7) rfl (by decide) rfl (cJ_isAway sob27 hS3 p) (by decide) rfl rfl rfl (Nat.le_of_ble_eq_true rfl) ?_
      refine aw_ifz_eq (tgt := 83) hO dX11_leaves_76 rfl rfl (fun c76 => ?_) (fun c76 => ?_)
      · refine aw_iconst hO dX11_leaves_83 rfl ?_
        refine aw_iret hO dX11_leaves_84 ?_
        have hw : leavW ν ((p : Nat) : Int) = -1 := by unfold leavW; rw [if_neg (by omega), if_neg (by omega)]
        exact ⟨_, rfl, by dsimp only; rw [if_pos hw]; exact ⟨by rw [Int.toNat_natCast]; rw [if_neg (fun z => c76 (by rw [fu_eq]; exact z))], hR3⟩⟩
      · refine aw_iconst hO dX11_leaves_79 rfl ?_
        refine aw_goto (tgt := 84) hO dX11_leaves_80 rfl ?_
        refine aw_iret hO dX11_leaves_84 ?_
        have hw : leavW ν ((p : Nat) : Int) = -1 := by unfold leavW; rw [if_neg (by omega), if_neg (by omega)]
        exact ⟨_, rfl, by dsimp only; rw [if_pos hw]; exact ⟨by rw [Int.toNat_natCast]; rw [fu_eq] at c76; rw [if_pos c76], hR3⟩⟩
    · refine aw_aload_n hO dX11_leaves_30 rfl rfl ?_
      refine aw_iconst hO dX11_leaves_31 rfl ?_
      refine aw_callVE (as := [vI ((3 : Nat) : Int)]) (st := []) hO dX11_leaves_32 rfl (lw_t3 132 rfl rfl) kX11_refuse (T := TX11) rfl (by decide) rfl (cP_refuse h (j := 3) (by decide)) (by decide) rfl rfl rfl (Nat.le_of_ble_eq_true rfl) (fun v8 μ9 hq10 => ?_)
      obtain ⟨e_v8, hR_μ9⟩ := hq10
      refine aw_iret hO dX11_leaves_35 ?_
      have hw : leavW ν ((p : Nat) : Int) = 3 := by unfold leavW; rw [if_neg (by omega), if_pos (by omega)]
      exact ⟨_, rfl, by dsimp only; rw [hw, if_neg (by decide)]; exact ⟨e_v8, hR_μ9⟩⟩
  · refine aw_aload_n hO dX11_leaves_11 rfl rfl ?_
    refine aw_iconst hO dX11_leaves_12 rfl ?_
    refine aw_callVE (as := [vI ((0 : Nat) : Int)]) (st := []) hO dX11_leaves_13 rfl (lw_t3 132 rfl rfl) kX11_refuse (T := TX11) rfl (by decide) rfl (cP_refuse h (j := 0) (by decide)) (by decide) rfl rfl rfl (Nat.le_of_ble_eq_true rfl) (fun v11 μ12 hq13 => ?_)
    obtain ⟨e_v11, hR_μ12⟩ := hq13
    refine aw_iret hO dX11_leaves_16 ?_
    have hw : leavW ν v = 0 := by unfold leavW; rw [if_pos c8]
    exact ⟨_, rfl, by dsimp only; rw [hw, if_neg (by decide)]; exact ⟨e_v11, hR_μ12⟩⟩
theorem dX11_feigns_0 : decode cX11_feigns 0 = .ok (.aload_n 0, 1) := by decide +kernel
theorem dX11_feigns_1 : decode cX11_feigns 1 = .ok (.getfield 41, 3) := by decide +kernel
theorem dX11_feigns_4 : decode cX11_feigns 4 = .ok (.iload_n 1, 1) := by decide +kernel
theorem dX11_feigns_5 : decode cX11_feigns 5 = .ok (.invokevirtual 164, 3) := by decide +kernel
theorem dX11_feigns_8 : decode cX11_feigns 8 = .ok (.ifCond .ne 9, 3) := by decide +kernel
theorem dX11_feigns_11 : decode cX11_feigns 11 = .ok (.aload_n 0, 1) := by decide +kernel
theorem dX11_feigns_12 : decode cX11_feigns 12 = .ok (.iconst 0, 1) := by decide +kernel
theorem dX11_feigns_13 : decode cX11_feigns 13 = .ok (.invokevirtual 208, 3) := by decide +kernel
theorem dX11_feigns_16 : decode cX11_feigns 16 = .ok (.ireturn, 1) := by decide +kernel
theorem dX11_feigns_17 : decode cX11_feigns 17 = .ok (.iload_n 2, 1) := by decide +kernel
theorem dX11_feigns_18 : decode cX11_feigns 18 = .ok (.ifCond .eq 14, 3) := by decide +kernel
theorem dX11_feigns_21 : decode cX11_feigns 21 = .ok (.iload_n 2, 1) := by decide +kernel
theorem dX11_feigns_22 : decode cX11_feigns 22 = .ok (.iconst 1, 1) := by decide +kernel
theorem dX11_feigns_23 : decode cX11_feigns 23 = .ok (.if_icmp .eq 9, 3) := by decide +kernel
theorem dX11_feigns_26 : decode cX11_feigns 26 = .ok (.aload_n 0, 1) := by decide +kernel
theorem dX11_feigns_27 : decode cX11_feigns 27 = .ok (.iconst 1, 1) := by decide +kernel
theorem dX11_feigns_28 : decode cX11_feigns 28 = .ok (.invokevirtual 208, 3) := by decide +kernel
theorem dX11_feigns_31 : decode cX11_feigns 31 = .ok (.ireturn, 1) := by decide +kernel
theorem dX11_feigns_32 : decode cX11_feigns 32 = .ok (.aload_n 0, 1) := by decide +kernel
theorem dX11_feigns_33 : decode cX11_feigns 33 = .ok (.getfield 48, 3) := by decide +kernel
theorem dX11_feigns_36 : decode cX11_feigns 36 = .ok (.iload_n 1, 1) := by decide +kernel
theorem dX11_feigns_37 : decode cX11_feigns 37 = .ok (.iload_n 2, 1) := by decide +kernel
theorem dX11_feigns_38 : decode cX11_feigns 38 = .ok (.invokevirtual 223, 3) := by decide +kernel
theorem dX11_feigns_41 : decode cX11_feigns 41 = .ok (.ifCond .ne 9, 3) := by decide +kernel
theorem dX11_feigns_44 : decode cX11_feigns 44 = .ok (.aload_n 0, 1) := by decide +kernel
theorem dX11_feigns_45 : decode cX11_feigns 45 = .ok (.iconst 2, 1) := by decide +kernel
theorem dX11_feigns_46 : decode cX11_feigns 46 = .ok (.invokevirtual 208, 3) := by decide +kernel
theorem dX11_feigns_49 : decode cX11_feigns 49 = .ok (.ireturn, 1) := by decide +kernel
theorem dX11_feigns_50 : decode cX11_feigns 50 = .ok (.aload_n 0, 1) := by decide +kernel
theorem dX11_feigns_51 : decode cX11_feigns 51 = .ok (.getfield 48, 3) := by decide +kernel
theorem dX11_feigns_54 : decode cX11_feigns 54 = .ok (.getfield 158, 3) := by decide +kernel
theorem dX11_feigns_57 : decode cX11_feigns 57 = .ok (.iconst 3, 1) := by decide +kernel
theorem dX11_feigns_58 : decode cX11_feigns 58 = .ok (.iaload, 1) := by decide +kernel
theorem dX11_feigns_59 : decode cX11_feigns 59 = .ok (.iconst 1, 1) := by decide +kernel
theorem dX11_feigns_60 : decode cX11_feigns 60 = .ok (.if_icmp .ge 9, 3) := by decide +kernel
theorem dX11_feigns_63 : decode cX11_feigns 63 = .ok (.aload_n 0, 1) := by decide +kernel
theorem dX11_feigns_64 : decode cX11_feigns 64 = .ok (.iconst 3, 1) := by decide +kernel
theorem dX11_feigns_65 : decode cX11_feigns 65 = .ok (.invokevirtual 208, 3) := by decide +kernel
theorem dX11_feigns_68 : decode cX11_feigns 68 = .ok (.ireturn, 1) := by decide +kernel
theorem dX11_feigns_69 : decode cX11_feigns 69 = .ok (.aload_n 0, 1) := by decide +kernel
theorem dX11_feigns_70 : decode cX11_feigns 70 = .ok (.getfield 58, 3) := by decide +kernel
theorem dX11_feigns_73 : decode cX11_feigns 73 = .ok (.aload_n 0, 1) := by decide +kernel
theorem dX11_feigns_74 : decode cX11_feigns 74 = .ok (.getfield 48, 3) := by decide +kernel
theorem dX11_feigns_77 : decode cX11_feigns 77 = .ok (.invokevirtual 215, 3) := by decide +kernel
theorem dX11_feigns_80 : decode cX11_feigns 80 = .ok (.aload_n 0, 1) := by decide +kernel
theorem dX11_feigns_81 : decode cX11_feigns 81 = .ok (.getfield 48, 3) := by decide +kernel
theorem dX11_feigns_84 : decode cX11_feigns 84 = .ok (.getfield 158, 3) := by decide +kernel
theorem dX11_feigns_87 : decode cX11_feigns 87 = .ok (.iconst 3, 1) := by decide +kernel
theorem dX11_feigns_88 : decode cX11_feigns 88 = .ok (.dup2, 1) := by decide +kernel
theorem dX11_feigns_89 : decode cX11_feigns 89 = .ok (.iaload, 1) := by decide +kernel
theorem dX11_feigns_90 : decode cX11_feigns 90 = .ok (.iconst 1, 1) := by decide +kernel
theorem dX11_feigns_91 : decode cX11_feigns 91 = .ok (.isub, 1) := by decide +kernel
theorem dX11_feigns_92 : decode cX11_feigns 92 = .ok (.iastore, 1) := by decide +kernel
theorem dX11_feigns_93 : decode cX11_feigns 93 = .ok (.aload_n 0, 1) := by decide +kernel
theorem dX11_feigns_94 : decode cX11_feigns 94 = .ok (.getfield 48, 3) := by decide +kernel
theorem dX11_feigns_97 : decode cX11_feigns 97 = .ok (.iload_n 1, 1) := by decide +kernel
theorem dX11_feigns_98 : decode cX11_feigns 98 = .ok (.iload_n 2, 1) := by decide +kernel
theorem dX11_feigns_99 : decode cX11_feigns 99 = .ok (.aload_n 0, 1) := by decide +kernel
theorem dX11_feigns_100 : decode cX11_feigns 100 = .ok (.getfield 48, 3) := by decide +kernel
theorem dX11_feigns_103 : decode cX11_feigns 103 = .ok (.iload_n 1, 1) := by decide +kernel
theorem dX11_feigns_104 : decode cX11_feigns 104 = .ok (.iload_n 2, 1) := by decide +kernel
theorem dX11_feigns_105 : decode cX11_feigns 105 = .ok (.invokevirtual 227, 3) := by decide +kernel
theorem dX11_feigns_108 : decode cX11_feigns 108 = .ok (.iconst 1, 1) := by decide +kernel
theorem dX11_feigns_109 : decode cX11_feigns 109 = .ok (.iadd, 1) := by decide +kernel
theorem dX11_feigns_110 : decode cX11_feigns 110 = .ok (.invokevirtual 231, 3) := by decide +kernel
theorem dX11_feigns_113 : decode cX11_feigns 113 = .ok (.aload_n 0, 1) := by decide +kernel
theorem dX11_feigns_114 : decode cX11_feigns 114 = .ok (.getfield 67, 3) := by decide +kernel
theorem dX11_feigns_117 : decode cX11_feigns 117 = .ok (.aload_n 0, 1) := by decide +kernel
theorem dX11_feigns_118 : decode cX11_feigns 118 = .ok (.getfield 48, 3) := by decide +kernel
theorem dX11_feigns_121 : decode cX11_feigns 121 = .ok (.iload_n 1, 1) := by decide +kernel
theorem dX11_feigns_122 : decode cX11_feigns 122 = .ok (.iload_n 2, 1) := by decide +kernel
theorem dX11_feigns_123 : decode cX11_feigns 123 = .ok (.invokevirtual 175, 3) := by decide +kernel
theorem dX11_feigns_126 : decode cX11_feigns 126 = .ok (.ireturn, 1) := by decide +kernel
set_option maxHeartbeats 4000000 in
set_option maxRecDepth 100000 in
theorem cP_feigns {μ ν : Mm} (h : Rel μ ν) {v u : Int} (hv : InR v) (hu : InR u) : CtE PC 3 yX11_feigns cX11_feigns 3 (some .int) [vR 0, vI v, vI u] μ (fun r m => if feigW ν v u = -1 then r = min 9 (ν.1 15 (4 * v.toNat + u.toNat) + 2 * (ν.1 17 (6 + 2 * v.toNat + u.toNat) + 1)) ∧ Rel m (mst (mst (kepM ν) 17 33 (ν.1 17 33 - 1)) 17 (6 + 2 * v.toNat + u.toNat) (ν.1 17 (6 + 2 * v.toNat + u.toNat) + 1)) else r = -1 ∧ Rel m (refM ν (feigW ν v u))) := by
  refine ct_intro [some (vR 0), some (vI v), some (vI u)] RX11 (by decide) rfl XCo rfl (Nat.le_of_ble_eq_true rfl) (fun K hO => ?_)
  obtain ⟨c, hc, hlc1, hlc2, hl3, hl4, hl5⟩ := h.L
  obtain ⟨N, hN, hN1, hN2, hN3⟩ := h.P
  obtain ⟨a, x, ha, hx, ha1, ha2, ha3, ha4⟩ := h.A
  have hnp := h.B.np
  have hnt := h.B.nt
  have hr := h.B.now.rest
  have hN15 := h.N.2.1
  refine aw_aload_n hO dX11_feigns_0 rfl rfl ?_
  refine gC_X11_41_0 hO dX11_feigns_1 rfl ?_
  refine aw_iload_n hO dX11_feigns_4 rfl rfl ?_
  refine aw_callVI (as := [vI v]) (st := []) hO dX11_feigns_5 rfl (lw_t3 170 rfl rfl) kX9_hasPerson (T := TX9) rfl (by decide) rfl (cJ_hasPerson h.JR.z hv) (by decide) rfl rfl rfl (Nat.le_of_ble_eq_true rfl) ?_
  refine aw_ifz_ne (tgt := 17) hO dX11_feigns_8 rfl rfl (fun c8 => ?_) (fun c8 => ?_)
  · obtain ⟨p, hpe⟩ := Int.eq_ofNat_of_zero_le c8.1
    subst hpe
    refine aw_iload_n hO dX11_feigns_17 rfl rfl ?_
    refine aw_if_eq (tgt := 32) hO dX11_feigns_18 rfl rfl hu (fun c18 => ?_) (fun c18 => ?_)
    · obtain ⟨t, ht2, htu⟩ : ∃ t : Nat, t < 2 ∧ u = (t : Int) := ⟨0, by decide, c18⟩
      subst htu
      refine aw_aload_n hO dX11_feigns_32 rfl rfl ?_
      refine gC_X11_48_0 hO dX11_feigns_33 rfl ?_
      refine aw_iload_n hO dX11_feigns_36 rfl rfl ?_
      refine aw_iload_n hO dX11_feigns_37 rfl rfl ?_
      refine aw_callVI (as := [vI ((p : Nat) : Int), vI ((t : Nat) : Int)]) (st := []) hO dX11_feigns_38 rfl (lw_t3 174 rfl rfl) kX7_canFeign (T := TX7) rfl (by decide) rfl (cJ_canFeign sob27 h.S.1 h.B.now (p := p) (t := t) (by omega) ht2) (by decide) rfl rfl rfl (Nat.le_of_ble_eq_true rfl) ?_
      refine aw_ifz_ne (tgt := 50) hO dX11_feigns_41 rfl rfl (fun c41 => ?_) (fun c41 => ?_)
      · refine aw_aload_n hO dX11_feigns_50 rfl rfl ?_
        refine gC_X11_48_0 hO dX11_feigns_51 rfl ?_
        refine gC_X11_158_27 hO dX11_feigns_54 rfl ?_
        refine aw_iconst hO dX11_feigns_57 rfl ?_
        refine aw_ialdn (N := 98) (i := 3) hO dX11_feigns_58 rfl (by decide) rfl (by decide) rfl (by decide) ?_
        refine aw_cg h.JR.S.sc.2.2.2.1 ?_
        refine aw_iconst hO dX11_feigns_59 rfl ?_
        refine aw_icmp_ge (tgt := 69) hO dX11_feigns_60 rfl rfl ⟨by omega, by omega⟩ (inRlit _) (fun c60 => ?_) (fun c60 => ?_)
        · refine aw_aload_n hO dX11_feigns_69 rfl rfl ?_
          refine gC_X11_58_0 hO dX11_feigns_70 rfl ?_
          refine aw_aload_n hO dX11_feigns_73 rfl rfl ?_
          refine gC_X11_48_0 hO dX11_feigns_74 rfl ?_
          refine aw_callVV (as := [vR 27]) (st := []) hO dX11_feigns_77 rfl (lw_t3 143 rfl rfl) kX0_keep (T := TX0) rfl (by decide) rfl (ctC_0_keep μ ha3 hx ⟨by omega, by omega⟩) (by decide) rfl rfl rfl (Nat.le_of_ble_eq_true rfl) (fun μ2 hq3 => ?_)
          have e_μ2 := hq3
          have hK : Rel μ2 (kepM ν) := by rw [e_μ2]; exact h.keep ha3
          have hSK : SR (μ2.1 28) (ν.1 17) := by have := hK.S.1; rw [kep17] at this; exact this
          refine aw_aload_n hO dX11_feigns_80 rfl rfl ?_
          refine gC_X11_48_0 hO dX11_feigns_81 rfl ?_
          refine gC_X11_158_27 hO dX11_feigns_84 rfl ?_
          refine aw_iconst hO dX11_feigns_87 rfl ?_
          refine aw_dup2 hO dX11_feigns_88 rfl rfl rfl ?_
          refine aw_ialdn (N := 98) (i := 3) hO dX11_feigns_89 rfl (by decide) rfl (by decide) rfl (by decide) ?_
          refine aw_cg hSK.sc.2.2.2.1 ?_
          refine aw_iconst hO dX11_feigns_90 rfl ?_
          refine aw_isub hO dX11_feigns_91 rfl ?_
          refine aw_iastn (N := 98) (i := 3) hO dX11_feigns_92 rfl (by decide) rfl (by decide) rfl (by decide) ?_
          refine aw_mm (fun μ4 e_μ4 => ?_)
          have hN2 : NowOK (fu (ν.1 17) 33 (ν.1 17 33 - 1)) := h.B.now.c33 (by omega) (by omega)
          have hR2 : Rel μ4 (mst (kepM ν) 17 33 (ν.1 17 33 - 1)) := by rw [e_μ4]; exact hK.up (by decide) (by decide) rfl (by decide) (by decide) (by rw [kep17]; exact hN2)
          have hS2 : SR (μ4.1 28) (fu (ν.1 17) 33 (ν.1 17 33 - 1)) := by have := hR2.S.1; rw [mst_fu, kep17] at this; exact this
          have hfr := h.B.now.fei (j := 6 + 2 * p + t) (by omega) (by omega)
          refine aw_aload_n hO dX11_feigns_93 rfl rfl ?_
          refine gC_X11_48_0 hO dX11_feigns_94 rfl ?_
          refine aw_iload_n hO dX11_feigns_97 rfl rfl ?_
          refine aw_iload_n hO dX11_feigns_98 rfl rfl ?_
          refine aw_aload_n hO dX11_feigns_99 rfl rfl ?_
          refine gC_X11_48_0 hO dX11_feigns_100 rfl ?_
          refine aw_iload_n hO dX11_feigns_103 rfl rfl ?_
          refine aw_iload_n hO dX11_feigns_104 rfl rfl ?_
          refine aw_callVI (as := [vI ((p : Nat) : Int), vI ((t : Nat) : Int)]) (st := [vI ((t : Nat) : Int), vI ((p : Nat) : Int), vR 27]) hO dX11_feigns_105 rfl (lw_t3 183 rfl rfl) kX7_feigned (T := TX7) rfl (by decide) rfl (cJ_feigned sob27 hS2 (p := p) (t := t) (by omega) ht2) (by decide) rfl rfl rfl (Nat.le_of_ble_eq_true rfl) ?_
          refine aw_cg (show (fu (ν.1 17) 33 (ν.1 17 33 - 1)) (6 + 2 * p + t) = ν.1 17 (6 + 2 * p + t) from fu_ne (by omega)) ?_
          refine aw_iconst hO dX11_feigns_108 rfl ?_
          refine aw_iadd hO dX11_feigns_109 rfl ?_
          refine aw_callVV (as := [vI ((p : Nat) : Int), vI ((t : Nat) : Int), vI ((ν.1 17 (6 + 2 * p + t)) + 1)]) (st := []) hO dX11_feigns_110 rfl (lw_t3 184 rfl rfl) kX7_setFeigned (T := TX7) rfl (by decide) rfl (ctC_7_setFeigned μ4 sob27 (p := p) (t := t) (v := (ν.1 17 (6 + 2 * p + t) + 1)) (by omega) ht2) (by decide) rfl rfl rfl (Nat.le_of_ble_eq_true rfl) (fun μ6 hq7 => ?_)
          have e_μ6 := hq7
          have hN3 : NowOK (fu (fu (ν.1 17) 33 (ν.1 17 33 - 1)) (6 + 2 * p + t) (ν.1 17 (6 + 2 * p + t) + 1)) := hN2.upd (fun _ => by omega) (fun _ _ => by omega) (fun _ _ => by omega) (fun _ => by omega) (fun _ => by omega) (fun _ => by omega) (fun _ _ => by omega)
          have hR3 : Rel μ6 (mst (mst (kepM ν) 17 33 (ν.1 17 33 - 1)) 17 (6 + 2 * p + t) (ν.1 17 (6 + 2 * p + t) + 1)) := by rw [e_μ6]; exact hR2.up (by omega) (by omega) (by unfold ri; rw [if_neg (by omega), if_neg (by omega), if_pos (by omega)]; omega) (by omega) (by omega) (by rw [mst_fu, kep17]; exact hN3)
          refine aw_aload_n hO dX11_feigns_113 rfl rfl ?_
          refine gC_X11_67_0 hO dX11_feigns_114 rfl ?_
          refine aw_aload_n hO dX11_feigns_117 rfl rfl ?_
          refine gC_X11_48_0 hO dX11_feigns_118 rfl ?_
          refine aw_iload_n hO dX11_feigns_121 rfl rfl ?_
          refine aw_iload_n hO dX11_feigns_122 rfl rfl ?_
          refine aw_callVI (as := [vR 27, vI ((p : Nat) : Int), vI ((t : Nat) : Int)]) (st := []) hO dX11_feigns_123 rfl (lw_t3 188 rfl rfl) kX3_seeming (T := TX3) rfl (by decide) rfl (cJ_seeming hR3.JR (p := p) (k := t) (by rw [mst_nk (by decide), mst_nk (by decide), kepM_nk (by decide) (Or.inr (by decide))]; omega) (by omega)) (by decide) rfl rfl rfl (Nat.le_of_ble_eq_true rfl) ?_
          refine aw_iret hO dX11_feigns_126 ?_
          have hw : feigW ν ((p : Nat) : Int) ((t : Nat) : Int) = -1 := by unfold feigW; rw [if_neg (by omega), if_neg (by omega), if_neg (fun z => z c41), if_neg (by omega)]
          exact ⟨_, rfl, by dsimp only; rw [if_pos hw]; exact ⟨by unfold seemsM; rw [if_neg (by omega), mst_eq, mst_nk (by decide), mst_nk (by decide), kepM_nk (by decide) (Or.inl (by decide))]; rfl, hR3⟩⟩
        · refine aw_aload_n hO dX11_feigns_63 rfl rfl ?_
          refine aw_iconst hO dX11_feigns_64 rfl ?_
          refine aw_callVE (as := [vI ((3 : Nat) : Int)]) (st := []) hO dX11_feigns_65 rfl (lw_t3 132 rfl rfl) kX11_refuse (T := TX11) rfl (by decide) rfl (cP_refuse h (j := 3) (by decide)) (by decide) rfl rfl rfl (Nat.le_of_ble_eq_true rfl) (fun v8 μ9 hq10 => ?_)
          obtain ⟨e_v8, hR_μ9⟩ := hq10
          refine aw_iret hO dX11_feigns_68 ?_
          have hw : feigW ν ((p : Nat) : Int) ((t : Nat) : Int) = 3 := by unfold feigW; rw [if_neg (by omega), if_neg (by omega), if_neg (fun z => z c41), if_pos (by omega)]
          exact ⟨_, rfl, by dsimp only; rw [hw, if_neg (by decide)]; exact ⟨e_v8, hR_μ9⟩⟩
      · refine aw_aload_n hO dX11_feigns_44 rfl rfl ?_
        refine aw_iconst hO dX11_feigns_45 rfl ?_
        refine aw_callVE (as := [vI ((2 : Nat) : Int)]) (st := []) hO dX11_feigns_46 rfl (lw_t3 132 rfl rfl) kX11_refuse (T := TX11) rfl (by decide) rfl (cP_refuse h (j := 2) (by decide)) (by decide) rfl rfl rfl (Nat.le_of_ble_eq_true rfl) (fun v11 μ12 hq13 => ?_)
        obtain ⟨e_v11, hR_μ12⟩ := hq13
        refine aw_iret hO dX11_feigns_49 ?_
        have hw : feigW ν ((p : Nat) : Int) ((t : Nat) : Int) = 2 := by unfold feigW; rw [if_neg (by omega), if_neg (by omega)]; exact if_pos c41
        exact ⟨_, rfl, by dsimp only; rw [hw, if_neg (by decide)]; exact ⟨e_v11, hR_μ12⟩⟩
    · refine aw_iload_n hO dX11_feigns_21 rfl rfl ?_
      refine aw_iconst hO dX11_feigns_22 rfl ?_
      refine aw_icmp_eq (tgt := 32) hO dX11_feigns_23 rfl rfl hu (inRlit _) (fun c23 => ?_) (fun c23 => ?_)
      · obtain ⟨t, ht2, htu⟩ : ∃ t : Nat, t < 2 ∧ u = (t : Int) := ⟨1, by decide, c23⟩
        subst htu
        refine aw_aload_n hO dX11_feigns_32 rfl rfl ?_
        refine gC_X11_48_0 hO dX11_feigns_33 rfl ?_
        refine aw_iload_n hO dX11_feigns_36 rfl rfl ?_
        refine aw_iload_n hO dX11_feigns_37 rfl rfl ?_
        refine aw_callVI (as := [vI ((p : Nat) : Int), vI ((t : Nat) : Int)]) (st := []) hO dX11_feigns_38 rfl (lw_t3 174 rfl rfl) kX7_canFeign (T := TX7) rfl (by decide) rfl (cJ_canFeign sob27 h.S.1 h.B.now (p := p) (t := t) (by omega) ht2) (by decide) rfl rfl rfl (Nat.le_of_ble_eq_true rfl) ?_
        refine aw_ifz_ne (tgt := 50) hO dX11_feigns_41 rfl rfl (fun c41 => ?_) (fun c41 => ?_)
        · refine aw_aload_n hO dX11_feigns_50 rfl rfl ?_
          refine gC_X11_48_0 hO dX11_feigns_51 rfl ?_
          refine gC_X11_158_27 hO dX11_feigns_54 rfl ?_
          refine aw_iconst hO dX11_feigns_57 rfl ?_
          refine aw_ialdn (N := 98) (i := 3) hO dX11_feigns_58 rfl (by decide) rfl (by decide) rfl (by decide) ?_
          refine aw_cg h.JR.S.sc.2.2.2.1 ?_
          refine aw_iconst hO dX11_feigns_59 rfl ?_
          refine aw_icmp_ge (tgt := 69) hO dX11_feigns_60 rfl rfl ⟨by omega, by omega⟩ (inRlit _) (fun c60 => ?_) (fun c60 => ?_)
          · refine aw_aload_n hO dX11_feigns_69 rfl rfl ?_
            refine gC_X11_58_0 hO dX11_feigns_70 rfl ?_
            refine aw_aload_n hO dX11_feigns_73 rfl rfl ?_
            refine gC_X11_48_0 hO dX11_feigns_74 rfl ?_
            refine aw_callVV (as := [vR 27]) (st := []) hO dX11_feigns_77 rfl (lw_t3 143 rfl rfl) kX0_keep (T := TX0) rfl (by decide) rfl (ctC_0_keep μ ha3 hx ⟨by omega, by omega⟩) (by decide) rfl rfl rfl (Nat.le_of_ble_eq_true rfl) (fun μ15 hq16 => ?_)
            have e_μ15 := hq16
            have hK : Rel μ15 (kepM ν) := by rw [e_μ15]; exact h.keep ha3
            have hSK : SR (μ15.1 28) (ν.1 17) := by have := hK.S.1; rw [kep17] at this; exact this
            refine aw_aload_n hO dX11_feigns_80 rfl rfl ?_
            refine gC_X11_48_0 hO dX11_feigns_81 rfl ?_
            refine gC_X11_158_27 hO dX11_feigns_84 rfl ?_
            refine aw_iconst hO dX11_feigns_87 rfl ?_
            refine aw_dup2 hO dX11_feigns_88 rfl rfl rfl ?_
            refine aw_ialdn (N := 98) (i := 3) hO dX11_feigns_89 rfl (by decide) rfl (by decide) rfl (by decide) ?_
            refine aw_cg hSK.sc.2.2.2.1 ?_
            refine aw_iconst hO dX11_feigns_90 rfl ?_
            refine aw_isub hO dX11_feigns_91 rfl ?_
            refine aw_iastn (N := 98) (i := 3) hO dX11_feigns_92 rfl (by decide) rfl (by decide) rfl (by decide) ?_
            refine aw_mm (fun μ17 e_μ17 => ?_)
            have hN2 : NowOK (fu (ν.1 17) 33 (ν.1 17 33 - 1)) := h.B.now.c33 (by omega) (by omega)
            have hR2 : Rel μ17 (mst (kepM ν) 17 33 (ν.1 17 33 - 1)) := by rw [e_μ17]; exact hK.up (by decide) (by decide) rfl (by decide) (by decide) (by rw [kep17]; exact hN2)
            have hS2 : SR (μ17.1 28) (fu (ν.1 17) 33 (ν.1 17 33 - 1)) := by have := hR2.S.1; rw [mst_fu, kep17] at this; exact this
            have hfr := h.B.now.fei (j := 6 + 2 * p + t) (by omega) (by omega)
            refine aw_aload_n hO dX11_feigns_93 rfl rfl ?_
            refine gC_X11_48_0 hO dX11_feigns_94 rfl ?_
            refine aw_iload_n hO dX11_feigns_97 rfl rfl ?_
            refine aw_iload_n hO dX11_feigns_98 rfl rfl ?_
            refine aw_aload_n hO dX11_feigns_99 rfl rfl ?_
            refine gC_X11_48_0 hO dX11_feigns_100 rfl ?_
            refine aw_iload_n hO dX11_feigns_103 rfl rfl ?_
            refine aw_iload_n hO dX11_feigns_104 rfl rfl ?_
            refine aw_callVI (as := [vI ((p : Nat) : Int), vI ((t : Nat) : Int)]) (st := [vI ((t : Nat) : Int), vI ((p : Nat) : Int), vR 27]) hO dX11_feigns_105 rfl (lw_t3 183 rfl rfl) kX7_feigned (T := TX7) rfl (by decide) rfl (cJ_feigned sob27 hS2 (p := p) (t := t) (by omega) ht2) (by decide) rfl rfl rfl (Nat.le_of_ble_eq_true rfl) ?_
            refine aw_cg (show (fu (ν.1 17) 33 (ν.1 17 33 - 1)) (6 + 2 * p + t) = ν.1 17 (6 + 2 * p + t) from fu_ne (by omega)) ?_
            refine aw_iconst hO dX11_feigns_108 rfl ?_
            refine aw_iadd hO dX11_feigns_109 rfl ?_
            refine aw_callVV (as := [vI ((p : Nat) : Int), vI ((t : Nat) : Int), vI ((ν.1 17 (6 + 2 * p + t)) + 1)]) (st := []) hO dX11_feigns_110 rfl (lw_t3 184 rfl rfl) kX7_setFeigned (T := TX7) rfl (by decide) rfl (ctC_7_setFeigned μ17 sob27 (p := p) (t := t) (v := (ν.1 17 (6 + 2 * p + t) + 1)) (by omega) ht2) (by decide) rfl rfl rfl (Nat.le_of_ble_eq_true rfl) (fun μ19 hq20 => ?_)
            have e_μ19 := hq20
            have hN3 : NowOK (fu (fu (ν.1 17) 33 (ν.1 17 33 - 1)) (6 + 2 * p + t) (ν.1 17 (6 + 2 * p + t) + 1)) := hN2.upd (fun _ => by omega) (fun _ _ => by omega) (fun _ _ => by omega) (fun _ => by omega) (fun _ => by omega) (fun _ => by omega) (fun _ _ => by omega)
            have hR3 : Rel μ19 (mst (mst (kepM ν) 17 33 (ν.1 17 33 - 1)) 17 (6 + 2 * p + t) (ν.1 17 (6 + 2 * p + t) + 1)) := by rw [e_μ19]; exact hR2.up (by omega) (by omega) (by unfold ri; rw [if_neg (by omega), if_neg (by omega), if_pos (by omega)]; omega) (by omega) (by omega) (by rw [mst_fu, kep17]; exact hN3)
            refine aw_aload_n hO dX11_feigns_113 rfl rfl ?_
            refine gC_X11_67_0 hO dX11_feigns_114 rfl ?_
            refine aw_aload_n hO dX11_feigns_117 rfl rfl ?_
            refine gC_X11_48_0 hO dX11_feigns_118 rfl ?_
            refine aw_iload_n hO dX11_feigns_121 rfl rfl ?_
            refine aw_iload_n hO dX11_feigns_122 rfl rfl ?_
            refine aw_callVI (as := [vR 27, vI ((p : Nat) : Int), vI ((t : Nat) : Int)]) (st := []) hO dX11_feigns_123 rfl (lw_t3 188 rfl rfl) kX3_seeming (T := TX3) rfl (by decide) rfl (cJ_seeming hR3.JR (p := p) (k := t) (by rw [mst_nk (by decide), mst_nk (by decide), kepM_nk (by decide) (Or.inr (by decide))]; omega) (by omega)) (by decide) rfl rfl rfl (Nat.le_of_ble_eq_true rfl) ?_
            refine aw_iret hO dX11_feigns_126 ?_
            have hw : feigW ν ((p : Nat) : Int) ((t : Nat) : Int) = -1 := by unfold feigW; rw [if_neg (by omega), if_neg (by omega), if_neg (fun z => z c41), if_neg (by omega)]
            exact ⟨_, rfl, by dsimp only; rw [if_pos hw]; exact ⟨by unfold seemsM; rw [if_neg (by omega), mst_eq, mst_nk (by decide), mst_nk (by decide), kepM_nk (by decide) (Or.inl (by decide))]; rfl, hR3⟩⟩
          · refine aw_aload_n hO dX11_feigns_63 rfl rfl ?_
            refine aw_iconst hO dX11_feigns_64 rfl ?_
            refine aw_callVE (as := [vI ((3 : Nat) : Int)]) (st := []) hO dX11_feigns_65 rfl (lw_t3 132 rfl rfl) kX11_refuse (T := TX11) rfl (by decide) rfl (cP_refuse h (j := 3) (by decide)) (by decide) rfl rfl rfl (Nat.le_of_ble_eq_true rfl) (fun v21 μ22 hq23 => ?_)
            obtain ⟨e_v21, hR_μ22⟩ := hq23
            refine aw_iret hO dX11_feigns_68 ?_
            have hw : feigW ν ((p : Nat) : Int) ((t : Nat) : Int) = 3 := by unfold feigW; rw [if_neg (by omega), if_neg (by omega), if_neg (fun z => z c41), if_pos (by omega)]
            exact ⟨_, rfl, by dsimp only; rw [hw, if_neg (by decide)]; exact ⟨e_v21, hR_μ22⟩⟩
        · refine aw_aload_n hO dX11_feigns_44 rfl rfl ?_
          refine aw_iconst hO dX11_feigns_45 rfl ?_
          refine aw_callVE (as := [vI ((2 : Nat) : Int)]) (st := []) hO dX11_feigns_46 rfl (lw_t3 132 rfl rfl) kX11_refuse (T := TX11) rfl (by decide) rfl (cP_refuse h (j := 2) (by decide)) (by decide) rfl rfl rfl (Nat.le_of_ble_eq_true rfl) (fun v24 μ25 hq26 => ?_)
          obtain ⟨e_v24, hR_μ25⟩ := hq26
          refine aw_iret hO dX11_feigns_49 ?_
          have hw : feigW ν ((p : Nat) : Int) ((t : Nat) : Int) = 2 := by unfold feigW; rw [if_neg (by omega), if_neg (by omega)]; exact if_pos c41
          exact ⟨_, rfl, by dsimp only; rw [hw, if_neg (by decide)]; exact ⟨e_v24, hR_μ25⟩⟩
      · refine aw_aload_n hO dX11_feigns_26 rfl rfl ?_
        refine aw_iconst hO dX11_feigns_27 rfl ?_
        refine aw_callVE (as := [vI ((1 : Nat) : Int)]) (st := []) hO dX11_feigns_28 rfl (lw_t3 132 rfl rfl) kX11_refuse (T := TX11) rfl (by decide) rfl (cP_refuse h (j := 1) (by decide)) (by decide) rfl rfl rfl (Nat.le_of_ble_eq_true rfl) (fun v27 μ28 hq29 => ?_)
        obtain ⟨e_v27, hR_μ28⟩ := hq29
        refine aw_iret hO dX11_feigns_31 ?_
        have hw : feigW ν ((p : Nat) : Int) u = 1 := by unfold feigW; rw [if_neg (by omega), if_pos (by omega)]
        exact ⟨_, rfl, by dsimp only; rw [hw, if_neg (by decide)]; exact ⟨e_v27, hR_μ28⟩⟩
  · refine aw_aload_n hO dX11_feigns_11 rfl rfl ?_
    refine aw_iconst hO dX11_feigns_12 rfl ?_
    refine aw_callVE (as := [vI ((0 : Nat) : Int)]) (st := []) hO dX11_feigns_13 rfl (lw_t3 132 rfl rfl) kX11_refuse (T := TX11) rfl (by decide) rfl (cP_refuse h (j := 0) (by decide)) (by decide) rfl rfl rfl (Nat.le_of_ble_eq_true rfl) (fun v30 μ31 hq32 => ?_)
    obtain ⟨e_v30, hR_μ31⟩ := hq32
    refine aw_iret hO dX11_feigns_16 ?_
    have hw : feigW ν v u = 0 := by unfold feigW; rw [if_pos c8]
    exact ⟨_, rfl, by dsimp only; rw [hw, if_neg (by decide)]; exact ⟨e_v30, hR_μ31⟩⟩
