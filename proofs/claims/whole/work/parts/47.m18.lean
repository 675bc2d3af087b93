
def rstP (μ : Mm) (i j : Nat) (k : Nat) : Bool := rstB μ i j ((k / 4 : Nat) : Int) ((k % 4 : Nat) : Int)
def cd4 (k : Nat) : Int := 10 * ((k / 4 : Nat) : Int) + ((k % 4 : Nat) : Int)
theorem dX12_rests_0 : decode cX12_rests 0 = .ok (.aload_n 0, 1) := by decide +kernel
theorem dX12_rests_1 : decode cX12_rests 1 = .ok (.iload_n 1, 1) := by decide +kernel
theorem dX12_rests_2 : decode cX12_rests 2 = .ok (.iload_n 2, 1) := by decide +kernel
theorem dX12_rests_3 : decode cX12_rests 3 = .ok (.invokevirtual 403, 3) := by decide +kernel
theorem dX12_rests_6 : decode cX12_rests 6 = .ok (.ifCond .eq 8, 3) := by decide +kernel
theorem dX12_rests_9 : decode cX12_rests 9 = .ok (.iload_n 3, 1) := by decide +kernel
theorem dX12_rests_10 : decode cX12_rests 10 = .ok (.iconst (-1), 1) := by decide +kernel
theorem dX12_rests_11 : decode cX12_rests 11 = .ok (.if_icmp .ge 5, 3) := by decide +kernel
theorem dX12_rests_14 : decode cX12_rests 14 = .ok (.iconst (-1), 1) := by decide +kernel
theorem dX12_rests_15 : decode cX12_rests 15 = .ok (.ireturn, 1) := by decide +kernel
theorem dX12_rests_16 : decode cX12_rests 16 = .ok (.iconst 0, 1) := by decide +kernel
theorem dX12_rests_17 : decode cX12_rests 17 = .ok (.istore 4, 2) := by decide +kernel
theorem dX12_rests_19 : decode cX12_rests 19 = .ok (.iconst 0, 1) := by decide +kernel
theorem dX12_rests_20 : decode cX12_rests 20 = .ok (.istore 5, 2) := by decide +kernel
theorem dX12_rests_22 : decode cX12_rests 22 = .ok (.iload 5, 2) := by decide +kernel
theorem dX12_rests_24 : decode cX12_rests 24 = .ok (.iconst 3, 1) := by decide +kernel
theorem dX12_rests_25 : decode cX12_rests 25 = .ok (.if_icmp .gt 55, 3) := by decide +kernel
theorem dX12_rests_28 : decode cX12_rests 28 = .ok (.iconst 0, 1) := by decide +kernel
theorem dX12_rests_29 : decode cX12_rests 29 = .ok (.istore 6, 2) := by decide +kernel
theorem dX12_rests_31 : decode cX12_rests 31 = .ok (.iload 6, 2) := by decide +kernel
theorem dX12_rests_33 : decode cX12_rests 33 = .ok (.iconst 3, 1) := by decide +kernel
theorem dX12_rests_34 : decode cX12_rests 34 = .ok (.if_icmp .gt 40, 3) := by decide +kernel
theorem dX12_rests_37 : decode cX12_rests 37 = .ok (.aload_n 0, 1) := by decide +kernel
theorem dX12_rests_38 : decode cX12_rests 38 = .ok (.iload_n 1, 1) := by decide +kernel
theorem dX12_rests_39 : decode cX12_rests 39 = .ok (.iload_n 2, 1) := by decide +kernel
theorem dX12_rests_40 : decode cX12_rests 40 = .ok (.iload 5, 2) := by decide +kernel
theorem dX12_rests_42 : decode cX12_rests 42 = .ok (.iload 6, 2) := by decide +kernel
theorem dX12_rests_44 : decode cX12_rests 44 = .ok (.invokevirtual 410, 3) := by decide +kernel
theorem dX12_rests_47 : decode cX12_rests 47 = .ok (.ifCond .eq 21, 3) := by decide +kernel
theorem dX12_rests_50 : decode cX12_rests 50 = .ok (.iload 4, 2) := by decide +kernel
theorem dX12_rests_52 : decode cX12_rests 52 = .ok (.iload_n 3, 1) := by decide +kernel
theorem dX12_rests_53 : decode cX12_rests 53 = .ok (.if_icmp .ne 12, 3) := by decide +kernel
theorem dX12_rests_56 : decode cX12_rests 56 = .ok (.bipush 10, 2) := by decide +kernel
theorem dX12_rests_58 : decode cX12_rests 58 = .ok (.iload 5, 2) := by decide +kernel
theorem dX12_rests_60 : decode cX12_rests 60 = .ok (.imul, 1) := by decide +kernel
theorem dX12_rests_61 : decode cX12_rests 61 = .ok (.iload 6, 2) := by decide +kernel
theorem dX12_rests_63 : decode cX12_rests 63 = .ok (.iadd, 1) := by decide +kernel
theorem dX12_rests_64 : decode cX12_rests 64 = .ok (.ireturn, 1) := by decide +kernel
theorem dX12_rests_65 : decode cX12_rests 65 = .ok (.iinc 4 1, 3) := by decide +kernel
theorem dX12_rests_68 : decode cX12_rests 68 = .ok (.iinc 6 1, 3) := by decide +kernel
theorem dX12_rests_71 : decode cX12_rests 71 = .ok (.goto (-40), 3) := by decide +kernel
theorem dX12_rests_74 : decode cX12_rests 74 = .ok (.iinc 5 1, 3) := by decide +kernel
theorem dX12_rests_77 : decode cX12_rests 77 = .ok (.goto (-55), 3) := by decide +kernel
theorem dX12_rests_80 : decode cX12_rests 80 = .ok (.iload_n 3, 1) := by decide +kernel
theorem dX12_rests_81 : decode cX12_rests 81 = .ok (.iconst (-1), 1) := by decide +kernel
theorem dX12_rests_82 : decode cX12_rests 82 = .ok (.if_icmp .ne 8, 3) := by decide +kernel
theorem dX12_rests_85 : decode cX12_rests 85 = .ok (.iload 4, 2) := by decide +kernel
theorem dX12_rests_87 : decode cX12_rests 87 = .ok (.goto 4, 3) := by decide +kernel
theorem dX12_rests_90 : decode cX12_rests 90 = .ok (.iconst (-1), 1) := by decide +kernel
theorem dX12_rests_91 : decode cX12_rests 91 = .ok (.ireturn, 1) := by decide +kernel
set_option maxHeartbeats 4000000 in
set_option maxRecDepth 100000 in
theorem ctM_rests (μ : Mm) (h : MG μ) {v u w : Int} (hv : InR v) (hu : InR u) (hw : InR w) [Decidable (twoP μ v u)] : CtE PM 10 yX12_rests cX12_rests 7 (some .int) [vR 0, vI v, vI u, vI w] μ (fun r m => r = (if twoP μ v u ∧ -1 ≤ w then selG (rstP μ v.toNat u.toNat) cd4 w 16 else -1) ∧ Scr μ m) := by
  refine ct_intro [some (vR 0), some (vI v), some (vI u), some (vI w), none, none, none] RX12 (by decide) rfl XM rfl (Nat.le_of_ble_eq_true rfl) (fun K hO => ?_)
  have hnp := h.1.np
  have body : twoP μ v u ∧ -1 ≤ w → AW K 22 [some (vR 0), some (vI v), some (vI u), some (vI w), some (vI ((0 : Nat) : Int)), some (vI ((0 : Nat) : Int)), none] [] μ := by
    intro hw2
    obtain ⟨t1, t2, t3, t4, t5⟩ := id hw2.1
    have e1 := Int.toNat_of_nonneg t1.1
    have e2 := Int.toNat_of_nonneg t2.1
    have lp : ∀ (c : Nat) (x y : Nat) (m : Mm), (4 * x + y + c = 16) → x ≤ 3 → y ≤ 4 → fndG (rstP μ v.toNat u.toNat) cd4 w (4 * x + y) = none → Scr μ m → AW K 31 [some (vR 0), some (vI v), some (vI u), some (vI w), some (vI (((cntB (rstP μ v.toNat u.toNat) (4 * x + y)) : Nat) : Int)), some (vI ((x : Nat) : Int)), some (vI ((y : Nat) : Int))] [] m := by
      intro c
      induction c with
      | zero =>
        intro x y m hk hx hy hn hS
        have hcb := cntB_le (rstP μ v.toNat u.toNat) (4 * x + y)
        refine aw_iload hO dX12_rests_31 rfl rfl ?_
        refine aw_iconst hO dX12_rests_33 rfl ?_
        refine aw_icmp_gt (tgt := 74) hO dX12_rests_34 rfl rfl (inRn (by omega)) (inRlit _) (fun c34 => ?_) (fun c34 => ?_)
        · refine aw_iinc (ls' := [some (vR 0), some (vI v), some (vI u), some (vI w), some (vI (((cntB (rstP μ v.toNat u.toNat) (4 * x + y)) : Nat) : Int)), some (vI (((x : Nat) : Int) + 1)), some (vI ((y : Nat) : Int))]) hO dX12_rests_74 rfl rfl rfl rfl ?_
          refine aw_lsq (ls' := [some (vR 0), some (vI v), some (vI u), some (vI w), some (vI (((cntB (rstP μ v.toNat u.toNat) (4 * x + y)) : Nat) : Int)), some (vI (((x + 1) : Nat) : Int)), some (vI ((y : Nat) : Int))]) rfl ?_
          refine aw_goto (tgt := 22) hO dX12_rests_77 rfl ?_
          refine aw_iload hO dX12_rests_22 rfl rfl ?_
          refine aw_iconst hO dX12_rests_24 rfl ?_
          refine aw_icmp_gt (tgt := 80) hO dX12_rests_25 rfl rfl (inRn (by omega)) (inRlit _) (fun c25 => ?_) (fun c25 => ?_)
          · refine aw_iload_n hO dX12_rests_80 rfl rfl ?_
            refine aw_iconst hO dX12_rests_81 rfl ?_
            refine aw_icmp_ne (tgt := 90) hO dX12_rests_82 rfl rfl ⟨by omega, by omega⟩ (inRlit _) (fun c82 => ?_) (fun c82 => ?_)
            · refine aw_iconst hO dX12_rests_90 rfl ?_
              refine aw_iret hO dX12_rests_91 ?_
              exact ⟨_, rfl, by rw [if_pos hw2]; unfold selG; rw [show 16 = 4 * x + y by omega, hn]; show _ = (if w = -1 then _ else _); rw [if_neg c82], hS⟩
            · refine aw_iload hO dX12_rests_85 rfl rfl ?_
              refine aw_goto (tgt := 91) hO dX12_rests_87 rfl ?_
              refine aw_iret hO dX12_rests_91 ?_
              exact ⟨_, rfl, by rw [if_pos hw2]; unfold selG; rw [show 16 = 4 * x + y by omega, hn]; show _ = (if w = -1 then _ else _); rw [if_pos c82], hS⟩
          · exact absurd c25 (by omega)
        · exact absurd c34 (by omega)
      | succ c ih =>
        intro x y m hk hx hy hn hS
        have hcb := cntB_le (rstP μ v.toNat u.toNat) (4 * x + y)
        by_cases hy4 : y = 4
        · have hx2 : x ≤ 2 := by omega
          have ih4 : ∀ (x y : Nat) (m : Mm), (4 * x + y + (c + 1) = 16) → x ≤ 3 → y < 4 → fndG (rstP μ v.toNat u.toNat) cd4 w (4 * x + y) = none → Scr μ m → AW K 31 [some (vR 0), some (vI v), some (vI u), some (vI w), some (vI (((cntB (rstP μ v.toNat u.toNat) (4 * x + y)) : Nat) : Int)), some (vI ((x : Nat) : Int)), some (vI ((y : Nat) : Int))] [] m := by
            intro x y m hk hx hy hn hS
            have hcb := cntB_le (rstP μ v.toNat u.toNat) (4 * x + y)
            refine aw_iload hO dX12_rests_31 rfl rfl ?_
            refine aw_iconst hO dX12_rests_33 rfl ?_
            refine aw_icmp_gt (tgt := 74) hO dX12_rests_34 rfl rfl (inRn (by omega)) (inRlit _) (fun c34 => ?_) (fun c34 => ?_)
            · exact absurd c34 (by omega)
            · have hdv : (4 * x + y) / 4 = x := by omega
              have hmd : (4 * x + y) % 4 = y := by omega
              have hPk : rstP μ v.toNat u.toNat (4 * x + y) = rstB μ v.toNat u.toNat x y := by unfold rstP; rw [hdv, hmd]
              refine aw_aload_n hO dX12_rests_37 rfl rfl ?_
              refine aw_iload_n hO dX12_rests_38 rfl rfl ?_
              refine aw_iload_n hO dX12_rests_39 rfl rfl ?_
              refine aw_iload hO dX12_rests_40 rfl rfl ?_
              refine aw_iload hO dX12_rests_42 rfl rfl ?_
              refine aw_stq (st' := [vI ((y : Nat) : Int), vI ((x : Nat) : Int), vI ((u.toNat : Nat) : Int), vI ((v.toNat : Nat) : Int), vR 0]) (by rw [e1, e2]) ?_
              refine aw_callVE (as := [vI ((v.toNat : Nat) : Int), vI ((u.toNat : Nat) : Int), vI ((x : Nat) : Int), vI ((y : Nat) : Int)]) (st := []) hO dX12_rests_44 rfl (lw_t8 34 rfl rfl) kX12_isRest (T := TX12) rfl (by decide) rfl (ctM_isRest μ m h hS (i := v.toNat) (j := u.toNat) (x := x) (y := y) (by omega) (by omega) (by omega) (by omega) (by omega)) (by decide) rfl rfl rfl (Nat.le_of_ble_eq_true rfl) (fun v1 μ2 hq3 => ?_)
              obtain ⟨e_v1, s_μ2⟩ := hq3
              refine aw_cg e_v1 ?_
              refine aw_ifz_eq (tgt := 68) hO dX12_rests_47 rfl rfl (fun c47 => ?_) (fun c47 => ?_)
              · refine aw_iinc (ls' := [some (vR 0), some (vI v), some (vI u), some (vI w), some (vI (((cntB (rstP μ v.toNat u.toNat) (4 * x + y)) : Nat) : Int)), some (vI ((x : Nat) : Int)), some (vI (((y : Nat) : Int) + 1))]) hO dX12_rests_68 rfl rfl rfl rfl ?_
                refine aw_lsq (ls' := [some (vR 0), some (vI v), some (vI u), some (vI w), some (vI (((cntB (rstP μ v.toNat u.toNat) (4 * x + y)) : Nat) : Int)), some (vI ((x : Nat) : Int)), some (vI (((y + 1) : Nat) : Int))]) rfl ?_
                refine aw_goto (tgt := 31) hO dX12_rests_71 rfl ?_
                refine aw_lsq (ls' := [some (vR 0), some (vI v), some (vI u), some (vI w), some (vI (((cntB (rstP μ v.toNat u.toNat) (4 * x + (y + 1))) : Nat) : Int)), some (vI ((x : Nat) : Int)), some (vI (((y + 1) : Nat) : Int))]) (by rw [show 4 * x + (y + 1) = 4 * x + y + 1 by omega, cntB_f (by rw [hPk]; exact c47)]) ?_
                exact ih x (y + 1) μ2 (by omega) (by omega) (by omega) (by rw [show 4 * x + (y + 1) = 4 * x + y + 1 by omega]; exact fndG_n1 hn (by rw [hPk]; exact c47)) s_μ2
              · refine aw_iload hO dX12_rests_50 rfl rfl ?_
                refine aw_iload_n hO dX12_rests_52 rfl rfl ?_
                refine aw_icmp_ne (tgt := 65) hO dX12_rests_53 rfl rfl ⟨by omega, by omega⟩ ⟨by omega, by omega⟩ (fun c53 => ?_) (fun c53 => ?_)
                · refine aw_iinc (ls' := [some (vR 0), some (vI v), some (vI u), some (vI w), some (vI ((((cntB (rstP μ v.toNat u.toNat) (4 * x + y)) : Nat) : Int) + 1)), some (vI ((x : Nat) : Int)), some (vI ((y : Nat) : Int))]) hO dX12_rests_65 rfl rfl rfl rfl ?_
                  refine aw_lsq (ls' := [some (vR 0), some (vI v), some (vI u), some (vI w), some (vI ((((cntB (rstP μ v.toNat u.toNat) (4 * x + y)) + 1) : Nat) : Int)), some (vI ((x : Nat) : Int)), some (vI ((y : Nat) : Int))]) rfl ?_
                  refine aw_iinc (ls' := [some (vR 0), some (vI v), some (vI u), some (vI w), some (vI ((((cntB (rstP μ v.toNat u.toNat) (4 * x + y)) + 1) : Nat) : Int)), some (vI ((x : Nat) : Int)), some (vI (((y : Nat) : Int) + 1))]) hO dX12_rests_68 rfl rfl rfl rfl ?_
                  refine aw_lsq (ls' := [some (vR 0), some (vI v), some (vI u), some (vI w), some (vI ((((cntB (rstP μ v.toNat u.toNat) (4 * x + y)) + 1) : Nat) : Int)), some (vI ((x : Nat) : Int)), some (vI (((y + 1) : Nat) : Int))]) rfl ?_
                  refine aw_goto (tgt := 31) hO dX12_rests_71 rfl ?_
                  refine aw_lsq (ls' := [some (vR 0), some (vI v), some (vI u), some (vI w), some (vI (((cntB (rstP μ v.toNat u.toNat) (4 * x + (y + 1))) : Nat) : Int)), some (vI ((x : Nat) : Int)), some (vI (((y + 1) : Nat) : Int))]) (by rw [show 4 * x + (y + 1) = 4 * x + y + 1 by omega, cntB_t (by rw [hPk]; exact c47)]) ?_
                  exact ih x (y + 1) μ2 (by omega) (by omega) (by omega) (by rw [show 4 * x + (y + 1) = 4 * x + y + 1 by omega]; exact fndG_n2 hn c53) s_μ2
                · refine aw_bipush hO dX12_rests_56 rfl (by decide) (by decide) ?_
                  refine aw_iload hO dX12_rests_58 rfl rfl ?_
                  refine aw_imul hO dX12_rests_60 rfl ?_
                  refine aw_iload hO dX12_rests_61 rfl rfl ?_
                  refine aw_iadd hO dX12_rests_63 rfl ?_
                  refine aw_iret hO dX12_rests_64 ?_
                  exact ⟨_, rfl, by rw [if_pos hw2, selG_hit hn (by rw [hPk]; exact c47) c53 (by omega)]; unfold cd4; rw [hdv, hmd], s_μ2⟩
          refine aw_iload hO dX12_rests_31 rfl rfl ?_
          refine aw_iconst hO dX12_rests_33 rfl ?_
          refine aw_icmp_gt (tgt := 74) hO dX12_rests_34 rfl rfl (inRn (by omega)) (inRlit _) (fun c34 => ?_) (fun c34 => ?_)
          · refine aw_iinc (ls' := [some (vR 0), some (vI v), some (vI u), some (vI w), some (vI (((cntB (rstP μ v.toNat u.toNat) (4 * x + y)) : Nat) : Int)), some (vI (((x : Nat) : Int) + 1)), some (vI ((y : Nat) : Int))]) hO dX12_rests_74 rfl rfl rfl rfl ?_
            refine aw_lsq (ls' := [some (vR 0), some (vI v), some (vI u), some (vI w), some (vI (((cntB (rstP μ v.toNat u.toNat) (4 * x + y)) : Nat) : Int)), some (vI (((x + 1) : Nat) : Int)), some (vI ((y : Nat) : Int))]) rfl ?_
            refine aw_goto (tgt := 22) hO dX12_rests_77 rfl ?_
            refine aw_iload hO dX12_rests_22 rfl rfl ?_
            refine aw_iconst hO dX12_rests_24 rfl ?_
            refine aw_icmp_gt (tgt := 80) hO dX12_rests_25 rfl rfl (inRn (by omega)) (inRlit _) (fun c25 => ?_) (fun c25 => ?_)
            · exact absurd c25 (by omega)
            · refine aw_iconst hO dX12_rests_28 rfl ?_
              refine aw_istore (ls' := [some (vR 0), some (vI v), some (vI u), some (vI w), some (vI (((cntB (rstP μ v.toNat u.toNat) (4 * x + y)) : Nat) : Int)), some (vI (((x + 1) : Nat) : Int)), some (vI 0)]) hO dX12_rests_29 rfl (Nat.le_of_ble_eq_true rfl) rfl rfl ?_
              refine aw_lsq (ls' := [some (vR 0), some (vI v), some (vI u), some (vI w), some (vI (((cntB (rstP μ v.toNat u.toNat) (4 * (x + 1) + 0)) : Nat) : Int)), some (vI (((x + 1) : Nat) : Int)), some (vI ((0 : Nat) : Int))]) (by rw [show 4 * (x + 1) + 0 = 4 * x + y by omega]; rfl) ?_
              exact ih4 (x + 1) 0 m (by omega) (by omega) (by omega) (by rw [show 4 * (x + 1) + 0 = 4 * x + y by omega]; exact hn) hS
          · exact absurd c34 (by omega)
        · have hy3 : y < 4 := by omega
          refine aw_iload hO dX12_rests_31 rfl rfl ?_
          refine aw_iconst hO dX12_rests_33 rfl ?_
          refine aw_icmp_gt (tgt := 74) hO dX12_rests_34 rfl rfl (inRn (by omega)) (inRlit _) (fun c34 => ?_) (fun c34 => ?_)
          · exact absurd c34 (by omega)
          · have hdv : (4 * x + y) / 4 = x := by omega
            have hmd : (4 * x + y) % 4 = y := by omega
            have hPk : rstP μ v.toNat u.toNat (4 * x + y) = rstB μ v.toNat u.toNat x y := by unfold rstP; rw [hdv, hmd]
            refine aw_aload_n hO dX12_rests_37 rfl rfl ?_
            refine aw_iload_n hO dX12_rests_38 rfl rfl ?_
            refine aw_iload_n hO dX12_rests_39 rfl rfl ?_
            refine aw_iload hO dX12_rests_40 rfl rfl ?_
            refine aw_iload hO dX12_rests_42 rfl rfl ?_
            refine aw_stq (st' := [vI ((y : Nat) : Int), vI ((x : Nat) : Int), vI ((u.toNat : Nat) : Int), vI ((v.toNat : Nat) : Int), vR 0]) (by rw [e1, e2]) ?_
            refine aw_callVE (as := [vI ((v.toNat : Nat) : Int), vI ((u.toNat : Nat) : Int), vI ((x : Nat) : Int), vI ((y : Nat) : Int)]) (st := []) hO dX12_rests_44 rfl (lw_t8 34 rfl rfl) kX12_isRest (T := TX12) rfl (by decide) rfl (ctM_isRest μ m h hS (i := v.toNat) (j := u.toNat) (x := x) (y := y) (by omega) (by omega) (by omega) (by omega) (by omega)) (by decide) rfl rfl rfl (Nat.le_of_ble_eq_true rfl) (fun v4 μ5 hq6 => ?_)
            obtain ⟨e_v4, s_μ5⟩ := hq6
            refine aw_cg e_v4 ?_
            refine aw_ifz_eq (tgt := 68) hO dX12_rests_47 rfl rfl (fun c47 => ?_) (fun c47 => ?_)
            · refine aw_iinc (ls' := [some (vR 0), some (vI v), some (vI u), some (vI w), some (vI (((cntB (rstP μ v.toNat u.toNat) (4 * x + y)) : Nat) : Int)), some (vI ((x : Nat) : Int)), some (vI (((y : Nat) : Int) + 1))]) hO dX12_rests_68 rfl rfl rfl rfl ?_
              refine aw_lsq (ls' := [some (vR 0), some (vI v), some (vI u), some (vI w), some (vI (((cntB (rstP μ v.toNat u.toNat) (4 * x + y)) : Nat) : Int)), some (vI ((x : Nat) : Int)), some (vI (((y + 1) : Nat) : Int))]) rfl ?_
              refine aw_goto (tgt := 31) hO dX12_rests_71 rfl ?_
              refine aw_lsq (ls' := [some (vR 0), some (vI v), some (vI u), some (vI w), some (vI (((cntB (rstP μ v.toNat u.toNat) (4 * x + (y + 1))) : Nat) : Int)), some (vI ((x : Nat) : Int)), some (vI (((y + 1) : Nat) : Int))]) (by rw [show 4 * x + (y + 1) = 4 * x + y + 1 by omega, cntB_f (by rw [hPk]; exact c47)]) ?_
              exact ih x (y + 1) μ5 (by omega) (by omega) (by omega) (by rw [show 4 * x + (y + 1) = 4 * x + y + 1 by omega]; exact fndG_n1 hn (by rw [hPk]; exact c47)) s_μ5
            · refine aw_iload hO dX12_rests_50 rfl rfl ?_
              refine aw_iload_n hO dX12_rests_52 rfl rfl ?_
              refine aw_icmp_ne (tgt := 65) hO dX12_rests_53 rfl rfl ⟨by omega, by omega⟩ ⟨by omega, by omega⟩ (fun c53 => ?_) (fun c53 => ?_)
              · refine aw_iinc (ls' := [some (vR 0), some (vI v), some (vI u), some (vI w), some (vI ((((cntB (rstP μ v.toNat u.toNat) (4 * x + y)) : Nat) : Int) + 1)), some (vI ((x : Nat) : Int)), some (vI ((y : Nat) : Int))]) hO dX12_rests_65 rfl rfl rfl rfl ?_
                refine aw_lsq (ls' := [some (vR 0), some (vI v), some (vI u), some (vI w), some (vI ((((cntB (rstP μ v.toNat u.toNat) (4 * x + y)) + 1) : Nat) : Int)), some (vI ((x : Nat) : Int)), some (vI ((y : Nat) : Int))]) rfl ?_
                refine aw_iinc (ls' := [some (vR 0), some (vI v), some (vI u), some (vI w), some (vI ((((cntB (rstP μ v.toNat u.toNat) (4 * x + y)) + 1) : Nat) : Int)), some (vI ((x : Nat) : Int)), some (vI (((y : Nat) : Int) + 1))]) hO dX12_rests_68 rfl rfl rfl rfl ?_
                refine aw_lsq (ls' := [some (vR 0), some (vI v), some (vI u), some (vI w), some (vI ((((cntB (rstP μ v.toNat u.toNat) (4 * x + y)) + 1) : Nat) : Int)), some (vI ((x : Nat) : Int)), some (vI (((y + 1) : Nat) : Int))]) rfl ?_
                refine aw_goto (tgt := 31) hO dX12_rests_71 rfl ?_
                refine aw_lsq (ls' := [some (vR 0), some (vI v), some (vI u), some (vI w), some (vI (((cntB (rstP μ v.toNat u.toNat) (4 * x + (y + 1))) : Nat) : Int)), some (vI ((x : Nat) : Int)), some (vI (((y + 1) : Nat) : Int))]) (by rw [show 4 * x + (y + 1) = 4 * x + y + 1 by omega, cntB_t (by rw [hPk]; exact c47)]) ?_
                exact ih x (y + 1) μ5 (by omega) (by omega) (by omega) (by rw [show 4 * x + (y + 1) = 4 * x + y + 1 by omega]; exact fndG_n2 hn c53) s_μ5
              · refine aw_bipush hO dX12_rests_56 rfl (by decide) (by decide) ?_
                refine aw_iload hO dX12_rests_58 rfl rfl ?_
                refine aw_imul hO dX12_rests_60 rfl ?_
                refine aw_iload hO dX12_rests_61 rfl rfl ?_
                refine aw_iadd hO dX12_rests_63 rfl ?_
                refine aw_iret hO dX12_rests_64 ?_
                exact ⟨_, rfl, by rw [if_pos hw2, selG_hit hn (by rw [hPk]; exact c47) c53 (by omega)]; unfold cd4; rw [hdv, hmd], s_μ5⟩
    refine aw_iload hO dX12_rests_22 rfl rfl ?_
    refine aw_iconst hO dX12_rests_24 rfl ?_
    refine aw_icmp_gt (tgt := 80) hO dX12_rests_25 rfl rfl (inRn (by omega)) (inRlit _) (fun c25 => ?_) (fun c25 => ?_)
    · exact absurd c25 (by omega)
    · refine aw_iconst hO dX12_rests_28 rfl ?_
      refine aw_istore (ls' := [some (vR 0), some (vI v), some (vI u), some (vI w), some (vI ((0 : Nat) : Int)), some (vI ((0 : Nat) : Int)), some (vI 0)]) hO dX12_rests_29 rfl (Nat.le_of_ble_eq_true rfl) rfl rfl ?_
      refine aw_lsq (ls' := [some (vR 0), some (vI v), some (vI u), some (vI w), some (vI ((cntB (rstP μ v.toNat u.toNat) (4 * 0 + 0) : Nat) : Int)), some (vI ((0 : Nat) : Int)), some (vI ((0 : Nat) : Int))]) rfl ?_
      exact lp 16 0 0 μ (by omega) (by omega) (by omega) rfl Scr.rf
  refine aw_aload_n hO dX12_rests_0 rfl rfl ?_
  refine aw_iload_n hO dX12_rests_1 rfl rfl ?_
  refine aw_iload_n hO dX12_rests_2 rfl rfl ?_
  refine aw_callVI (as := [vI v, vI u]) (st := []) hO dX12_rests_3 rfl (lw_t8 22 rfl rfl) kX12_areTwo (T := TX12) rfl (by decide) rfl (ctM_areTwo μ h.1 hv hu) (by decide) rfl rfl rfl (Nat.le_of_ble_eq_true rfl) ?_
  refine aw_ifz_eq (tgt := 14) hO dX12_rests_6 rfl rfl (fun c6 => ?_) (fun c6 => ?_)
  · refine aw_iconst hO dX12_rests_14 rfl ?_
    refine aw_iret hO dX12_rests_15 ?_
    exact ⟨_, rfl, by rw [if_neg (fun q => c6 q.1)], Scr.rf⟩
  · refine aw_iload_n hO dX12_rests_9 rfl rfl ?_
    refine aw_iconst hO dX12_rests_10 rfl ?_
    refine aw_icmp_ge (tgt := 16) hO dX12_rests_11 rfl rfl ⟨by omega, by omega⟩ (inRlit _) (fun c11 => ?_) (fun c11 => ?_)
    · refine aw_iconst hO dX12_rests_16 rfl ?_
      refine aw_istore (ls' := [some (vR 0), some (vI v), some (vI u), some (vI w), some (vI 0), none, none]) hO dX12_rests_17 rfl (Nat.le_of_ble_eq_true rfl) rfl rfl ?_
      refine aw_iconst hO dX12_rests_19 rfl ?_
      refine aw_istore (ls' := [some (vR 0), some (vI v), some (vI u), some (vI w), some (vI 0), some (vI 0), none]) hO dX12_rests_20 rfl (Nat.le_of_ble_eq_true rfl) rfl rfl ?_
      refine aw_lsq (ls' := [some (vR 0), some (vI v), some (vI u), some (vI w), some (vI ((0 : Nat) : Int)), some (vI ((0 : Nat) : Int)), none]) rfl ?_
      exact body ⟨c6, c11⟩
    · refine aw_iconst hO dX12_rests_14 rfl ?_
      refine aw_iret hO dX12_rests_15 ?_
      exact ⟨_, rfl, by rw [if_neg (fun q => absurd q.2 (by omega))], Scr.rf⟩

def mosM (μ : Mm) (u : Int) : Int := if u = 5 then (if μ.1 0 26 = 0 then -1 else best allT (fun t => μ.1 16 (3 * t + 2)) (μ.1 0 26).toNat) else if u = 6 then pickM μ (μ.1 0 25).toNat else if u = 7 then metO (μ.1 17) (μ.1 0 25).toNat else if u = 8 then μ.1 17 31 else if u = 9 then bAnd (bShl 1 (μ.1 0 26) - 1) (bXor (metM μ (pickM μ (μ.1 0 25).toNat) (μ.1 0 26).toNat) (-1)) else if u = 10 then μ.1 17 34 else if u = 11 then μ.1 17 35 else best allT (valM μ u) (μ.1 0 25).toNat
theorem dX12_most_0 : decode cX12_most 0 = .ok (.aload_n 0, 1) := by decide +kernel
theorem dX12_most_1 : decode cX12_most 1 = .ok (.getfield 242, 3) := by decide +kernel
theorem dX12_most_4 : decode cX12_most 4 = .ok (.ifCond .eq 13, 3) := by decide +kernel
theorem dX12_most_7 : decode cX12_most 7 = .ok (.iload_n 1, 1) := by decide +kernel
theorem dX12_most_8 : decode cX12_most 8 = .ok (.iconst 0, 1) := by decide +kernel
theorem dX12_most_9 : decode cX12_most 9 = .ok (.bipush 11, 2) := by decide +kernel
theorem dX12_most_11 : decode cX12_most 11 = .ok (.invokestatic 205, 3) := by decide +kernel
theorem dX12_most_14 : decode cX12_most 14 = .ok (.ifCond .ne 5, 3) := by decide +kernel
theorem dX12_most_17 : decode cX12_most 17 = .ok (.iconst (-1), 1) := by decide +kernel
theorem dX12_most_18 : decode cX12_most 18 = .ok (.ireturn, 1) := by decide +kernel
theorem dX12_most_19 : decode cX12_most 19 = .ok (.iload_n 1, 1) := by decide +kernel
theorem dX12_most_20 : decode cX12_most 20 = .ok (.tableswitch 103 5 11 #[44, 49, 54, 59, 67, 87, 95], 44) := by decide +kernel
theorem dX12_most_64 : decode cX12_most 64 = .ok (.aload_n 0, 1) := by decide +kernel
theorem dX12_most_65 : decode cX12_most 65 = .ok (.invokevirtual 424, 3) := by decide +kernel
theorem dX12_most_68 : decode cX12_most 68 = .ok (.ireturn, 1) := by decide +kernel
theorem dX12_most_69 : decode cX12_most 69 = .ok (.aload_n 0, 1) := by decide +kernel
theorem dX12_most_70 : decode cX12_most 70 = .ok (.invokevirtual 295, 3) := by decide +kernel
theorem dX12_most_73 : decode cX12_most 73 = .ok (.ireturn, 1) := by decide +kernel
theorem dX12_most_74 : decode cX12_most 74 = .ok (.aload_n 0, 1) := by decide +kernel
theorem dX12_most_75 : decode cX12_most 75 = .ok (.invokevirtual 427, 3) := by decide +kernel
theorem dX12_most_78 : decode cX12_most 78 = .ok (.ireturn, 1) := by decide +kernel
theorem dX12_most_79 : decode cX12_most 79 = .ok (.aload_n 0, 1) := by decide +kernel
theorem dX12_most_80 : decode cX12_most 80 = .ok (.getfield 58, 3) := by decide +kernel
theorem dX12_most_83 : decode cX12_most 83 = .ok (.bipush 31, 2) := by decide +kernel
theorem dX12_most_85 : decode cX12_most 85 = .ok (.iaload, 1) := by decide +kernel
theorem dX12_most_86 : decode cX12_most 86 = .ok (.ireturn, 1) := by decide +kernel
theorem dX12_most_87 : decode cX12_most 87 = .ok (.iconst 1, 1) := by decide +kernel
theorem dX12_most_88 : decode cX12_most 88 = .ok (.aload_n 0, 1) := by decide +kernel
theorem dX12_most_89 : decode cX12_most 89 = .ok (.getfield 245, 3) := by decide +kernel
theorem dX12_most_92 : decode cX12_most 92 = .ok (.ishl, 1) := by decide +kernel
theorem dX12_most_93 : decode cX12_most 93 = .ok (.iconst 1, 1) := by decide +kernel
theorem dX12_most_94 : decode cX12_most 94 = .ok (.isub, 1) := by decide +kernel
theorem dX12_most_95 : decode cX12_most 95 = .ok (.aload_n 0, 1) := by decide +kernel
theorem dX12_most_96 : decode cX12_most 96 = .ok (.aload_n 0, 1) := by decide +kernel
theorem dX12_most_97 : decode cX12_most 97 = .ok (.invokevirtual 295, 3) := by decide +kernel
theorem dX12_most_100 : decode cX12_most 100 = .ok (.invokevirtual 304, 3) := by decide +kernel
theorem dX12_most_103 : decode cX12_most 103 = .ok (.iconst (-1), 1) := by decide +kernel
theorem dX12_most_104 : decode cX12_most 104 = .ok (.ixor, 1) := by decide +kernel
theorem dX12_most_105 : decode cX12_most 105 = .ok (.iand, 1) := by decide +kernel
theorem dX12_most_106 : decode cX12_most 106 = .ok (.ireturn, 1) := by decide +kernel
theorem dX12_most_107 : decode cX12_most 107 = .ok (.aload_n 0, 1) := by decide +kernel
theorem dX12_most_108 : decode cX12_most 108 = .ok (.getfield 58, 3) := by decide +kernel
theorem dX12_most_111 : decode cX12_most 111 = .ok (.bipush 34, 2) := by decide +kernel
theorem dX12_most_113 : decode cX12_most 113 = .ok (.iaload, 1) := by decide +kernel
theorem dX12_most_114 : decode cX12_most 114 = .ok (.ireturn, 1) := by decide +kernel
theorem dX12_most_115 : decode cX12_most 115 = .ok (.aload_n 0, 1) := by decide +kernel
theorem dX12_most_116 : decode cX12_most 116 = .ok (.getfield 58, 3) := by decide +kernel
theorem dX12_most_119 : decode cX12_most 119 = .ok (.bipush 35, 2) := by decide +kernel
theorem dX12_most_121 : decode cX12_most 121 = .ok (.iaload, 1) := by decide +kernel
theorem dX12_most_122 : decode cX12_most 122 = .ok (.ireturn, 1) := by decide +kernel
theorem dX12_most_123 : decode cX12_most 123 = .ok (.aload_n 0, 1) := by decide +kernel
theorem dX12_most_124 : decode cX12_most 124 = .ok (.iload_n 1, 1) := by decide +kernel
theorem dX12_most_125 : decode cX12_most 125 = .ok (.invokevirtual 430, 3) := by decide +kernel
theorem dX12_most_128 : decode cX12_most 128 = .ok (.ireturn, 1) := by decide +kernel
set_option maxHeartbeats 4000000 in
set_option maxRecDepth 100000 in
theorem ctM_most (μ : Mm) (h : MG μ) {u : Int} (hu : InR u) : CtE PM 8 yX12_most cX12_most 2 (some .int) [vR 0, vI u] μ (fun r m => r = (if μ.1 0 25 ≠ 0 ∧ (0 ≤ u ∧ u ≤ 11) then mosM μ u else -1) ∧ Scr μ m) := by
  refine ct_intro [some (vR 0), some (vI u)] RX12 (by decide) rfl XM rfl (Nat.le_of_ble_eq_true rfl) (fun K hO => ?_)
  have hnp := h.1.np
  refine aw_aload_n hO dX12_most_0 rfl rfl ?_
  refine gM_persons hO dX12_most_1 rfl ?_
  refine aw_if_eq (tgt := 17) hO dX12_most_4 rfl rfl ⟨by omega, by omega⟩ (fun c4 => ?_) (fun c4 => ?_)
  · refine aw_iconst hO dX12_most_17 rfl ?_
    refine aw_iret hO dX12_most_18 ?_
    exact ⟨_, rfl, by rw [if_neg (fun q => q.1 c4)], Scr.rf⟩
  · refine aw_iload_n hO dX12_most_7 rfl rfl ?_
    refine aw_iconst hO dX12_most_8 rfl ?_
    refine aw_bipush hO dX12_most_9 rfl (by decide) (by decide) ?_
    refine aw_callSI (as := [vI u, vI 0, vI 11]) (st := []) hO dX12_most_11 rfl (lw_t6 172 rfl rfl) kX12_in (ctM_in μ ⟨by omega, by omega⟩ (inRlit _) (inRlit _)) (by decide) rfl rfl rfl (Nat.le_of_ble_eq_true rfl) ?_
    refine aw_ifz_ne (tgt := 19) hO dX12_most_14 rfl rfl (fun c14 => ?_) (fun c14 => ?_)
    · refine aw_iload_n hO dX12_most_19 rfl rfl ?_
      by_cases hc5 : u = 5
      · refine aw_tableIn (tgt := 64) hO dX12_most_20 ⟨by omega, by omega⟩ (by omega) (by omega) (by rw [hc5]; rfl) rfl ?_
        refine aw_aload_n hO dX12_most_64 rfl rfl ?_
        refine aw_callVI (as := []) (st := []) hO dX12_most_65 rfl (lw_t8 60 rfl rfl) kX12_gravest (T := TX12) rfl (by decide) rfl (ctM_gravest μ h.1) (by decide) rfl rfl rfl (Nat.le_of_ble_eq_true rfl) ?_
        refine aw_iret hO dX12_most_68 ?_
        exact ⟨_, rfl, by rw [if_pos (show μ.1 0 25 ≠ 0 ∧ (0 ≤ u ∧ u ≤ 11) from ⟨c4, c14⟩)]; unfold mosM; rw [if_pos hc5], Scr.rf⟩
      by_cases hc6 : u = 6
      · refine aw_tableIn (tgt := 69) hO dX12_most_20 ⟨by omega, by omega⟩ (by omega) (by omega) (by rw [hc6]; rfl) rfl ?_
        refine aw_aload_n hO dX12_most_69 rfl rfl ?_
        refine aw_callVE (as := []) (st := []) hO dX12_most_70 rfl (lw_t7 141 rfl rfl) kX12_picked (T := TX12) rfl (by decide) rfl (ctM_picked μ h) (by decide) rfl rfl rfl (Nat.le_of_ble_eq_true rfl) (fun v1 μ2 hq3 => ?_)
        obtain ⟨e_v1, s_μ2⟩ := hq3
        have q1 := pickM_rng μ (μ.1 0 25).toNat
        rw [← e_v1] at q1
        refine aw_iret hO dX12_most_73 ?_
        exact ⟨_, rfl, by rw [if_pos (show μ.1 0 25 ≠ 0 ∧ (0 ≤ u ∧ u ≤ 11) from ⟨c4, c14⟩)]; unfold mosM; rw [if_neg hc5, if_pos hc6]; exact e_v1, s_μ2.toScr⟩
      by_cases hc7 : u = 7
      · refine aw_tableIn (tgt := 74) hO dX12_most_20 ⟨by omega, by omega⟩ (by omega) (by omega) (by rw [hc7]; rfl) rfl ?_
        refine aw_aload_n hO dX12_most_74 rfl rfl ?_
        refine aw_callVI (as := []) (st := []) hO dX12_most_75 rfl (lw_t8 64 rfl rfl) kX12_metOnes (T := TX12) rfl (by decide) rfl (ctM_metOnes μ h.1) (by decide) rfl rfl rfl (Nat.le_of_ble_eq_true rfl) ?_
        refine aw_iret hO dX12_most_78 ?_
        exact ⟨_, rfl, by rw [if_pos (show μ.1 0 25 ≠ 0 ∧ (0 ≤ u ∧ u ≤ 11) from ⟨c4, c14⟩)]; unfold mosM; rw [if_neg hc5, if_neg hc6, if_pos hc7], Scr.rf⟩
      by_cases hc8 : u = 8
      · refine aw_tableIn (tgt := 79) hO dX12_most_20 ⟨by omega, by omega⟩ (by omega) (by omega) (by rw [hc8]; rfl) rfl ?_
        refine aw_aload_n hO dX12_most_79 rfl rfl ?_
        refine gM_now hO dX12_most_80 rfl ?_
        refine aw_bipush hO dX12_most_83 rfl (by decide) (by decide) ?_
        refine aw_ialdn (N := 218) (i := 31) hO dX12_most_85 rfl (by decide) rfl (by decide) rfl (by decide) ?_
        refine aw_iret hO dX12_most_86 ?_
        exact ⟨_, rfl, by rw [if_pos (show μ.1 0 25 ≠ 0 ∧ (0 ≤ u ∧ u ≤ 11) from ⟨c4, c14⟩)]; unfold mosM; rw [if_neg hc5, if_neg hc6, if_neg hc7, if_pos hc8], Scr.rf⟩
      by_cases hc9 : u = 9
      · refine aw_tableIn (tgt := 87) hO dX12_most_20 ⟨by omega, by omega⟩ (by omega) (by omega) (by rw [hc9]; rfl) rfl ?_
        refine aw_iconst hO dX12_most_87 rfl ?_
        refine aw_aload_n hO dX12_most_88 rfl rfl ?_
        refine gM_troubles hO dX12_most_89 rfl ?_
        refine aw_ishl hO dX12_most_92 rfl ?_
        refine aw_iconst hO dX12_most_93 rfl ?_
        refine aw_isub hO dX12_most_94 rfl ?_
        refine aw_aload_n hO dX12_most_95 rfl rfl ?_
        refine aw_aload_n hO dX12_most_96 rfl rfl ?_
        refine aw_callVE (as := []) (st := [vR 0, vI ((bShl 1 (μ.1 0 26)) - 1)]) hO dX12_most_97 rfl (lw_t7 141 rfl rfl) kX12_picked (T := TX12) rfl (by decide) rfl (ctM_picked μ h) (by decide) rfl rfl rfl (Nat.le_of_ble_eq_true rfl) (fun v4 μ5 hq6 => ?_)
        obtain ⟨e_v4, s_μ5⟩ := hq6
        have q1 := pickM_rng μ (μ.1 0 25).toNat
        rw [← e_v4] at q1
        refine aw_callVI (as := [vI v4]) (st := [vI ((bShl 1 (μ.1 0 26)) - 1)]) hO dX12_most_100 rfl (lw_t7 149 rfl rfl) kX12_metBy (T := TX12) rfl (by decide) rfl (ctM_metBy μ5 (h.Sc s_μ5).1 (q := v4) (by omega) (by omega)) (by decide) rfl rfl rfl (Nat.le_of_ble_eq_true rfl) ?_
        refine aw_cg (show metM μ5 v4 (μ5.1 0 26).toNat = metM μ (pickM μ (μ.1 0 25).toNat) (μ.1 0 26).toNat by rw [metM_Sc s_μ5, s_μ5.fn (k := 0) rfl, e_v4]) ?_
        refine aw_iconst hO dX12_most_103 rfl ?_
        refine aw_ixor hO dX12_most_104 rfl ?_
        refine aw_iand hO dX12_most_105 rfl ?_
        refine aw_iret hO dX12_most_106 ?_
        exact ⟨_, rfl, by rw [if_pos (show μ.1 0 25 ≠ 0 ∧ (0 ≤ u ∧ u ≤ 11) from ⟨c4, c14⟩)]; unfold mosM; rw [if_neg hc5, if_neg hc6, if_neg hc7, if_neg hc8, if_pos hc9], s_μ5.toScr⟩
      by_cases hc10 : u = 10
      · refine aw_tableIn (tgt := 107) hO dX12_most_20 ⟨by omega, by omega⟩ (by omega) (by omega) (by rw [hc10]; rfl) rfl ?_
        refine aw_aload_n hO dX12_most_107 rfl rfl ?_
        refine gM_now hO dX12_most_108 rfl ?_
        refine aw_bipush hO dX12_most_111 rfl (by decide) (by decide) ?_
        refine aw_ialdn (N := 218) (i := 34) hO dX12_most_113 rfl (by decide) rfl (by decide) rfl (by decide) ?_
        refine aw_iret hO dX12_most_114 ?_
        exact ⟨_, rfl, by rw [if_pos (show μ.1 0 25 ≠ 0 ∧ (0 ≤ u ∧ u ≤ 11) from ⟨c4, c14⟩)]; unfold mosM; rw [if_neg hc5, if_neg hc6, if_neg hc7, if_neg hc8, if_neg hc9, if_pos hc10], Scr.rf⟩
      by_cases hc11 : u = 11
      · refine aw_tableIn (tgt := 115) hO dX12_most_20 ⟨by omega, by omega⟩ (by omega) (by omega) (by rw [hc11]; rfl) rfl ?_
        refine aw_aload_n hO dX12_most_115 rfl rfl ?_
        refine gM_now hO dX12_most_116 rfl ?_
        refine aw_bipush hO dX12_most_119 rfl (by decide) (by decide) ?_
        refine aw_ialdn (N := 218) (i := 35) hO dX12_most_121 rfl (by decide) rfl (by decide) rfl (by decide) ?_
        refine aw_iret hO dX12_most_122 ?_
        exact ⟨_, rfl, by rw [if_pos (show μ.1 0 25 ≠ 0 ∧ (0 ≤ u ∧ u ≤ 11) from ⟨c4, c14⟩)]; unfold mosM; rw [if_neg hc5, if_neg hc6, if_neg hc7, if_neg hc8, if_neg hc9, if_neg hc10, if_pos hc11], Scr.rf⟩
      refine aw_tableOut (tgt := 123) hO dX12_most_20 ⟨by omega, by omega⟩ (by omega) rfl ?_
      refine aw_aload_n hO dX12_most_123 rfl rfl ?_
      refine aw_iload_n hO dX12_most_124 rfl rfl ?_
      refine aw_callVE (as := [vI u]) (st := []) hO dX12_most_125 rfl (lw_t8 68 rfl rfl) kX12_topBy (T := TX12) rfl (by decide) rfl (ctM_topBy μ h c4 hu) (by decide) rfl rfl rfl (Nat.le_of_ble_eq_true rfl) (fun v7 μ8 hq9 => ?_)
      obtain ⟨e_v7, s_μ8⟩ := hq9
      refine aw_iret hO dX12_most_128 ?_
      exact ⟨_, rfl, by rw [if_pos (show μ.1 0 25 ≠ 0 ∧ (0 ≤ u ∧ u ≤ 11) from ⟨c4, c14⟩)]; unfold mosM; rw [if_neg hc5, if_neg hc6, if_neg hc7, if_neg hc8, if_neg hc9, if_neg hc10, if_neg hc11]; exact e_v7, s_μ8.toScr⟩
    · refine aw_iconst hO dX12_most_17 rfl ?_
      refine aw_iret hO dX12_most_18 ?_
      exact ⟨_, rfl, by rw [if_neg (fun q => c14 q.2)], Scr.rf⟩
