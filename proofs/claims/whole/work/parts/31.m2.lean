
theorem rL {v w : Int} {μ : Mm} (h : v = w) : (some (vL v) : Option AV) = some (vL w) ∧ μ = μ := ⟨by rw [h], rfl⟩
theorem sCmp_lt {a b : Int} : sCmp a b < 0 ↔ a < b := by unfold sCmp; split <;> (try split) <;> omega
theorem sCmp_eq {a b : Int} : sCmp a b = 0 ↔ a = b := by unfold sCmp; split <;> (try split) <;> omega
theorem sCmp_gt {a b : Int} : 0 < sCmp a b ↔ b < a := by unfold sCmp; split <;> (try split) <;> omega
theorem mul_rng {a b : Int} (h1 : -2000000 ≤ a) (h2 : a ≤ 2000000) (h3 : -2000000 ≤ b) (h4 : b ≤ 2000000) : -4000000000000 ≤ a * b ∧ a * b ≤ 4000000000000 := by
  have e1 : a * b ≤ 2000000 * 2000000 := by
    rcases Int.le_total 0 a with ha | ha
    · rcases Int.le_total 0 b with hb | hb
      · exact Int.mul_le_mul h2 h4 hb (by omega)
      · have := Int.mul_nonpos_of_nonneg_of_nonpos ha hb; omega
    · rcases Int.le_total 0 b with hb | hb
      · have := Int.mul_nonpos_of_nonpos_of_nonneg ha hb; omega
      · have := Int.mul_le_mul (a := -a) (b := -b) (c := 2000000) (d := 2000000) (by omega) (by omega) (by omega) (by omega)
        rw [Int.neg_mul_neg] at this; exact this
  have e2 : -(a * b) ≤ 2000000 * 2000000 := by
    rcases Int.le_total 0 a with ha | ha
    · rcases Int.le_total 0 b with hb | hb
      · have := Int.mul_nonneg ha hb; omega
      · have := Int.mul_le_mul (a := a) (b := -b) (c := 2000000) (d := 2000000) (by omega) (by omega) (by omega) (by omega)
        rw [Int.mul_neg] at this; exact this
    · rcases Int.le_total 0 b with hb | hb
      · have := Int.mul_le_mul (a := -a) (b := b) (c := 2000000) (d := 2000000) (by omega) (by omega) (by omega) (by omega)
        rw [Int.neg_mul] at this; exact this
      · have := Int.mul_nonneg_of_nonpos_of_nonpos ha hb; omega
  omega
theorem tdiv_rng {a b : Int} (h1 : -2000000 ≤ a) (h2 : a ≤ 2000000) : -2000000 ≤ a.tdiv b ∧ a.tdiv b ≤ 2000000 := by
  have h := Int.natAbs_tdiv a b
  have h3 : (a.tdiv b).natAbs ≤ a.natAbs := by rw [h]; exact Nat.div_le_self _ _
  omega
theorem dX12_bounded_0 : decode cX12_bounded 0 = .ok (.ldc2_w 180, 3) := by decide +kernel
theorem dX12_bounded_3 : decode cX12_bounded 3 = .ok (.ldc2_w 182, 3) := by decide +kernel
theorem dX12_bounded_6 : decode cX12_bounded 6 = .ok (.lload_n 0, 1) := by decide +kernel
theorem dX12_bounded_7 : decode cX12_bounded 7 = .ok (.invokestatic 184, 3) := by decide +kernel
theorem dX12_bounded_10 : decode cX12_bounded 10 = .ok (.invokestatic 190, 3) := by decide +kernel
theorem dX12_bounded_13 : decode cX12_bounded 13 = .ok (.l2i, 1) := by decide +kernel
theorem dX12_bounded_14 : decode cX12_bounded 14 = .ok (.ireturn, 1) := by decide +kernel
set_option maxHeartbeats 4000000 in
set_option maxRecDepth 100000 in
theorem ctM_bounded (μ : Mm) {v : Int} (hv : InL v) : CtI PM 1 yX12_bounded cX12_bounded 2 (some .int) [vL v] μ (clampI 1000000 v) := by
  refine ct_intro [some (vL v), none] RX12 (by decide) rfl XM rfl (Nat.le_of_ble_eq_true rfl) (fun K hO => ?_)
  refine aw_ldc2 (a := (-1000000)) hO dX12_bounded_0 rfl (lw_t7 130 rfl rfl) ?_
  refine aw_ldc2 (a := 1000000) hO dX12_bounded_3 rfl (lw_t7 131 rfl rfl) ?_
  refine aw_lload_n hO dX12_bounded_6 rfl rfl ?_
  refine aw_lmin hO dX12_bounded_7 rfl (lw_t7 132 rfl rfl) mth_lmin (by decide) rfl (Nat.le_of_ble_eq_true rfl) ⟨by omega, by omega⟩ ⟨by omega, by omega⟩ ?_
  refine aw_lmax hO dX12_bounded_10 rfl (lw_t7 135 rfl rfl) mth_lmax (by decide) rfl (Nat.le_of_ble_eq_true rfl) ⟨by omega, by omega⟩ ⟨by omega, by omega⟩ ?_
  refine aw_l2i hO dX12_bounded_13 rfl ?_
  refine aw_iret hO dX12_bounded_14 ?_
  exact rI rfl
theorem dX12_worked_0 : decode cX12_worked 0 = .ok (.iload_n 0, 1) := by decide +kernel
theorem dX12_worked_1 : decode cX12_worked 1 = .ok (.tableswitch 143 2 10 #[51, 58, 65, 72, 89, 101, 113, 143, 125], 51) := by decide +kernel
theorem dX12_worked_52 : decode cX12_worked 52 = .ok (.lload_n 1, 1) := by decide +kernel
theorem dX12_worked_53 : decode cX12_worked 53 = .ok (.lload_n 3, 1) := by decide +kernel
theorem dX12_worked_54 : decode cX12_worked 54 = .ok (.ladd, 1) := by decide +kernel
theorem dX12_worked_55 : decode cX12_worked 55 = .ok (.invokestatic 193, 3) := by decide +kernel
theorem dX12_worked_58 : decode cX12_worked 58 = .ok (.ireturn, 1) := by decide +kernel
theorem dX12_worked_59 : decode cX12_worked 59 = .ok (.lload_n 1, 1) := by decide +kernel
theorem dX12_worked_60 : decode cX12_worked 60 = .ok (.lload_n 3, 1) := by decide +kernel
theorem dX12_worked_61 : decode cX12_worked 61 = .ok (.lsub, 1) := by decide +kernel
theorem dX12_worked_62 : decode cX12_worked 62 = .ok (.invokestatic 193, 3) := by decide +kernel
theorem dX12_worked_65 : decode cX12_worked 65 = .ok (.ireturn, 1) := by decide +kernel
theorem dX12_worked_66 : decode cX12_worked 66 = .ok (.lload_n 1, 1) := by decide +kernel
theorem dX12_worked_67 : decode cX12_worked 67 = .ok (.lload_n 3, 1) := by decide +kernel
theorem dX12_worked_68 : decode cX12_worked 68 = .ok (.lmul, 1) := by decide +kernel
theorem dX12_worked_69 : decode cX12_worked 69 = .ok (.invokestatic 193, 3) := by decide +kernel
theorem dX12_worked_72 : decode cX12_worked 72 = .ok (.ireturn, 1) := by decide +kernel
theorem dX12_worked_73 : decode cX12_worked 73 = .ok (.lload_n 3, 1) := by decide +kernel
theorem dX12_worked_74 : decode cX12_worked 74 = .ok (.lconst 0, 1) := by decide +kernel
theorem dX12_worked_75 : decode cX12_worked 75 = .ok (.lcmp, 1) := by decide +kernel
theorem dX12_worked_76 : decode cX12_worked 76 = .ok (.ifCond .ne 7, 3) := by decide +kernel
theorem dX12_worked_79 : decode cX12_worked 79 = .ok (.iconst 0, 1) := by decide +kernel
theorem dX12_worked_80 : decode cX12_worked 80 = .ok (.goto 9, 3) := by decide +kernel
theorem dX12_worked_83 : decode cX12_worked 83 = .ok (.lload_n 1, 1) := by decide +kernel
theorem dX12_worked_84 : decode cX12_worked 84 = .ok (.lload_n 3, 1) := by decide +kernel
theorem dX12_worked_85 : decode cX12_worked 85 = .ok (.ldiv, 1) := by decide +kernel
theorem dX12_worked_86 : decode cX12_worked 86 = .ok (.invokestatic 193, 3) := by decide +kernel
theorem dX12_worked_89 : decode cX12_worked 89 = .ok (.ireturn, 1) := by decide +kernel
theorem dX12_worked_90 : decode cX12_worked 90 = .ok (.lload_n 1, 1) := by decide +kernel
theorem dX12_worked_91 : decode cX12_worked 91 = .ok (.lload_n 3, 1) := by decide +kernel
theorem dX12_worked_92 : decode cX12_worked 92 = .ok (.lcmp, 1) := by decide +kernel
theorem dX12_worked_93 : decode cX12_worked 93 = .ok (.ifCond .ne 7, 3) := by decide +kernel
theorem dX12_worked_96 : decode cX12_worked 96 = .ok (.iconst 1, 1) := by decide +kernel
theorem dX12_worked_97 : decode cX12_worked 97 = .ok (.goto 4, 3) := by decide +kernel
theorem dX12_worked_100 : decode cX12_worked 100 = .ok (.iconst 0, 1) := by decide +kernel
theorem dX12_worked_101 : decode cX12_worked 101 = .ok (.ireturn, 1) := by decide +kernel
theorem dX12_worked_102 : decode cX12_worked 102 = .ok (.lload_n 1, 1) := by decide +kernel
theorem dX12_worked_103 : decode cX12_worked 103 = .ok (.lload_n 3, 1) := by decide +kernel
theorem dX12_worked_104 : decode cX12_worked 104 = .ok (.lcmp, 1) := by decide +kernel
theorem dX12_worked_105 : decode cX12_worked 105 = .ok (.ifCond .ge 7, 3) := by decide +kernel
theorem dX12_worked_108 : decode cX12_worked 108 = .ok (.iconst 1, 1) := by decide +kernel
theorem dX12_worked_109 : decode cX12_worked 109 = .ok (.goto 4, 3) := by decide +kernel
theorem dX12_worked_112 : decode cX12_worked 112 = .ok (.iconst 0, 1) := by decide +kernel
theorem dX12_worked_113 : decode cX12_worked 113 = .ok (.ireturn, 1) := by decide +kernel
theorem dX12_worked_114 : decode cX12_worked 114 = .ok (.lload_n 1, 1) := by decide +kernel
theorem dX12_worked_115 : decode cX12_worked 115 = .ok (.lload_n 3, 1) := by decide +kernel
theorem dX12_worked_116 : decode cX12_worked 116 = .ok (.lcmp, 1) := by decide +kernel
theorem dX12_worked_117 : decode cX12_worked 117 = .ok (.ifCond .le 7, 3) := by decide +kernel
theorem dX12_worked_120 : decode cX12_worked 120 = .ok (.iconst 1, 1) := by decide +kernel
theorem dX12_worked_121 : decode cX12_worked 121 = .ok (.goto 4, 3) := by decide +kernel
theorem dX12_worked_124 : decode cX12_worked 124 = .ok (.iconst 0, 1) := by decide +kernel
theorem dX12_worked_125 : decode cX12_worked 125 = .ok (.ireturn, 1) := by decide +kernel
theorem dX12_worked_126 : decode cX12_worked 126 = .ok (.lload_n 1, 1) := by decide +kernel
theorem dX12_worked_127 : decode cX12_worked 127 = .ok (.lconst 0, 1) := by decide +kernel
theorem dX12_worked_128 : decode cX12_worked 128 = .ok (.lcmp, 1) := by decide +kernel
theorem dX12_worked_129 : decode cX12_worked 129 = .ok (.ifCond .eq 13, 3) := by decide +kernel
theorem dX12_worked_132 : decode cX12_worked 132 = .ok (.lload_n 3, 1) := by decide +kernel
theorem dX12_worked_133 : decode cX12_worked 133 = .ok (.lconst 0, 1) := by decide +kernel
theorem dX12_worked_134 : decode cX12_worked 134 = .ok (.lcmp, 1) := by decide +kernel
theorem dX12_worked_135 : decode cX12_worked 135 = .ok (.ifCond .eq 7, 3) := by decide +kernel
theorem dX12_worked_138 : decode cX12_worked 138 = .ok (.iconst 1, 1) := by decide +kernel
theorem dX12_worked_139 : decode cX12_worked 139 = .ok (.goto 4, 3) := by decide +kernel
theorem dX12_worked_142 : decode cX12_worked 142 = .ok (.iconst 0, 1) := by decide +kernel
theorem dX12_worked_143 : decode cX12_worked 143 = .ok (.ireturn, 1) := by decide +kernel
theorem dX12_worked_144 : decode cX12_worked 144 = .ok (.lload_n 1, 1) := by decide +kernel
theorem dX12_worked_145 : decode cX12_worked 145 = .ok (.lconst 0, 1) := by decide +kernel
theorem dX12_worked_146 : decode cX12_worked 146 = .ok (.lcmp, 1) := by decide +kernel
theorem dX12_worked_147 : decode cX12_worked 147 = .ok (.ifCond .ne 9, 3) := by decide +kernel
theorem dX12_worked_150 : decode cX12_worked 150 = .ok (.lload_n 3, 1) := by decide +kernel
theorem dX12_worked_151 : decode cX12_worked 151 = .ok (.lconst 0, 1) := by decide +kernel
theorem dX12_worked_152 : decode cX12_worked 152 = .ok (.lcmp, 1) := by decide +kernel
theorem dX12_worked_153 : decode cX12_worked 153 = .ok (.ifCond .eq 7, 3) := by decide +kernel
theorem dX12_worked_156 : decode cX12_worked 156 = .ok (.iconst 1, 1) := by decide +kernel
theorem dX12_worked_157 : decode cX12_worked 157 = .ok (.goto 4, 3) := by decide +kernel
theorem dX12_worked_160 : decode cX12_worked 160 = .ok (.iconst 0, 1) := by decide +kernel
theorem dX12_worked_161 : decode cX12_worked 161 = .ok (.ireturn, 1) := by decide +kernel
set_option maxHeartbeats 4000000 in
set_option maxRecDepth 100000 in
theorem ctM_worked (μ : Mm) {c a b : Int} (hc0 : 2 ≤ c) (hc1 : c ≤ 11) (h1 : -2000000 ≤ a) (h2 : a ≤ 2000000) (h3 : -2000000 ≤ b) (h4 : b ≤ 2000000) : CtI PM 2 yX12_worked cX12_worked 5 (some .int) [vI c, vL a, vL b] μ (wkd c a b) := by
  refine ct_intro [some (vI c), some (vL a), none, some (vL b), none] RX12 (by decide) rfl XM rfl (Nat.le_of_ble_eq_true rfl) (fun K hO => ?_)
  have hml := mul_rng h1 h2 h3 h4
  have hdv := tdiv_rng (b := b) h1 h2
  refine aw_iload_n hO dX12_worked_0 rfl rfl ?_
  by_cases hc2 : c = 2
  · refine aw_tableIn (tgt := 52) hO dX12_worked_1 ⟨by omega, by omega⟩ (by omega) (by omega) (by rw [hc2]; rfl) rfl ?_
    refine aw_lload_n hO dX12_worked_52 rfl rfl ?_
    refine aw_lload_n hO dX12_worked_53 rfl rfl ?_
    refine aw_ladd hO dX12_worked_54 rfl ?_
    refine aw_callSI (as := [vL (a + b)]) (st := []) hO dX12_worked_55 rfl (lw_t7 127 rfl rfl) kX12_bounded (ctM_bounded μ (v := (a + b)) ⟨by omega, by omega⟩) (by decide) rfl rfl rfl (Nat.le_of_ble_eq_true rfl) ?_
    refine aw_iret hO dX12_worked_58 ?_
    exact rI (by subst hc2; rfl)
  by_cases hc3 : c = 3
  · refine aw_tableIn (tgt := 59) hO dX12_worked_1 ⟨by omega, by omega⟩ (by omega) (by omega) (by rw [hc3]; rfl) rfl ?_
    refine aw_lload_n hO dX12_worked_59 rfl rfl ?_
    refine aw_lload_n hO dX12_worked_60 rfl rfl ?_
    refine aw_lsub hO dX12_worked_61 rfl ?_
    refine aw_callSI (as := [vL (a - b)]) (st := []) hO dX12_worked_62 rfl (lw_t7 127 rfl rfl) kX12_bounded (ctM_bounded μ (v := (a - b)) ⟨by omega, by omega⟩) (by decide) rfl rfl rfl (Nat.le_of_ble_eq_true rfl) ?_
    refine aw_iret hO dX12_worked_65 ?_
    exact rI (by subst hc3; rfl)
  by_cases hc4 : c = 4
  · refine aw_tableIn (tgt := 66) hO dX12_worked_1 ⟨by omega, by omega⟩ (by omega) (by omega) (by rw [hc4]; rfl) rfl ?_
    refine aw_lload_n hO dX12_worked_66 rfl rfl ?_
    refine aw_lload_n hO dX12_worked_67 rfl rfl ?_
    refine aw_lmul hO dX12_worked_68 rfl ?_
    refine aw_callSI (as := [vL (a * b)]) (st := []) hO dX12_worked_69 rfl (lw_t7 127 rfl rfl) kX12_bounded (ctM_bounded μ (v := (a * b)) ⟨by omega, by omega⟩) (by decide) rfl rfl rfl (Nat.le_of_ble_eq_true rfl) ?_
    refine aw_iret hO dX12_worked_72 ?_
    exact rI (by subst hc4; rfl)
  by_cases hc5 : c = 5
  · refine aw_tableIn (tgt := 73) hO dX12_worked_1 ⟨by omega, by omega⟩ (by omega) (by omega) (by rw [hc5]; rfl) rfl ?_
    refine aw_lload_n hO dX12_worked_73 rfl rfl ?_
    refine aw_lconst0 hO dX12_worked_74 rfl ?_
    refine aw_lcmp hO dX12_worked_75 rfl ⟨by omega, by omega⟩ ⟨by omega, by omega⟩ ?_
    refine aw_if_ne (tgt := 83) hO dX12_worked_76 rfl rfl (sCmp_R _ _) (fun c76 => ?_) (fun c76 => ?_)
    · refine aw_lload_n hO dX12_worked_83 rfl rfl ?_
      refine aw_lload_n hO dX12_worked_84 rfl rfl ?_
      refine aw_ldiv hO dX12_worked_85 rfl ⟨by omega, by omega⟩ ⟨by omega, by omega⟩ (fun e => c76 (sCmp_eq.mpr e)) ?_
      refine aw_callSI (as := [vL ((a : Int).tdiv b)]) (st := []) hO dX12_worked_86 rfl (lw_t7 127 rfl rfl) kX12_bounded (ctM_bounded μ (v := ((a : Int).tdiv b)) ⟨by omega, by omega⟩) (by decide) rfl rfl rfl (Nat.le_of_ble_eq_true rfl) ?_
      refine aw_iret hO dX12_worked_89 ?_
      exact rI (by subst hc5; show _ = (if b = 0 then 0 else clampI 1000000 (a.tdiv b)); have e := @sCmp_eq b 0; split <;> first | rfl | omega)
    · refine aw_iconst hO dX12_worked_79 rfl ?_
      refine aw_goto (tgt := 89) hO dX12_worked_80 rfl ?_
      refine aw_iret hO dX12_worked_89 ?_
      exact rI (by subst hc5; show _ = (if b = 0 then 0 else clampI 1000000 (a.tdiv b)); have e := @sCmp_eq b 0; split <;> first | rfl | omega)
  by_cases hc6 : c = 6
  · refine aw_tableIn (tgt := 90) hO dX12_worked_1 ⟨by omega, by omega⟩ (by omega) (by omega) (by rw [hc6]; rfl) rfl ?_
    refine aw_lload_n hO dX12_worked_90 rfl rfl ?_
    refine aw_lload_n hO dX12_worked_91 rfl rfl ?_
    refine aw_lcmp hO dX12_worked_92 rfl ⟨by omega, by omega⟩ ⟨by omega, by omega⟩ ?_
    refine aw_if_ne (tgt := 100) hO dX12_worked_93 rfl rfl (sCmp_R _ _) (fun c93 => ?_) (fun c93 => ?_)
    · refine aw_iconst hO dX12_worked_100 rfl ?_
      refine aw_iret hO dX12_worked_101 ?_
      exact rI (by subst hc6; show _ = (if a = b then 1 else 0); have e := @sCmp_eq a b; split <;> omega)
    · refine aw_iconst hO dX12_worked_96 rfl ?_
      refine aw_goto (tgt := 101) hO dX12_worked_97 rfl ?_
      refine aw_iret hO dX12_worked_101 ?_
      exact rI (by subst hc6; show _ = (if a = b then 1 else 0); have e := @sCmp_eq a b; split <;> omega)
  by_cases hc7 : c = 7
  · refine aw_tableIn (tgt := 102) hO dX12_worked_1 ⟨by omega, by omega⟩ (by omega) (by omega) (by rw [hc7]; rfl) rfl ?_
    refine aw_lload_n hO dX12_worked_102 rfl rfl ?_
    refine aw_lload_n hO dX12_worked_103 rfl rfl ?_
    refine aw_lcmp hO dX12_worked_104 rfl ⟨by omega, by omega⟩ ⟨by omega, by omega⟩ ?_
    refine aw_if_ge (tgt := 112) hO dX12_worked_105 rfl rfl (sCmp_R _ _) (fun c105 => ?_) (fun c105 => ?_)
    · refine aw_iconst hO dX12_worked_112 rfl ?_
      refine aw_iret hO dX12_worked_113 ?_
      exact rI (by subst hc7; show _ = (if a < b then 1 else 0); have e := @sCmp_lt a b; split <;> omega)
    · refine aw_iconst hO dX12_worked_108 rfl ?_
      refine aw_goto (tgt := 113) hO dX12_worked_109 rfl ?_
      refine aw_iret hO dX12_worked_113 ?_
      exact rI (by subst hc7; show _ = (if a < b then 1 else 0); have e := @sCmp_lt a b; split <;> omega)
  by_cases hc8 : c = 8
  · refine aw_tableIn (tgt := 114) hO dX12_worked_1 ⟨by omega, by omega⟩ (by omega) (by omega) (by rw [hc8]; rfl) rfl ?_
    refine aw_lload_n hO dX12_worked_114 rfl rfl ?_
    refine aw_lload_n hO dX12_worked_115 rfl rfl ?_
    refine aw_lcmp hO dX12_worked_116 rfl ⟨by omega, by omega⟩ ⟨by omega, by omega⟩ ?_
    refine aw_if_le (tgt := 124) hO dX12_worked_117 rfl rfl (sCmp_R _ _) (fun c117 => ?_) (fun c117 => ?_)
    · refine aw_iconst hO dX12_worked_124 rfl ?_
      refine aw_iret hO dX12_worked_125 ?_
      exact rI (by subst hc8; show _ = (if b < a then 1 else 0); have e := @sCmp_gt a b; split <;> omega)
    · refine aw_iconst hO dX12_worked_120 rfl ?_
      refine aw_goto (tgt := 125) hO dX12_worked_121 rfl ?_
      refine aw_iret hO dX12_worked_125 ?_
      exact rI (by subst hc8; show _ = (if b < a then 1 else 0); have e := @sCmp_gt a b; split <;> omega)
  by_cases hc9 : c = 9
  · refine aw_tableIn (tgt := 144) hO dX12_worked_1 ⟨by omega, by omega⟩ (by omega) (by omega) (by rw [hc9]; rfl) rfl ?_
    refine aw_lload_n hO dX12_worked_144 rfl rfl ?_
    refine aw_lconst0 hO dX12_worked_145 rfl ?_
    refine aw_lcmp hO dX12_worked_146 rfl ⟨by omega, by omega⟩ ⟨by omega, by omega⟩ ?_
    refine aw_if_ne (tgt := 156) hO dX12_worked_147 rfl rfl (sCmp_R _ _) (fun c147 => ?_) (fun c147 => ?_)
    · refine aw_iconst hO dX12_worked_156 rfl ?_
      refine aw_goto (tgt := 161) hO dX12_worked_157 rfl ?_
      refine aw_iret hO dX12_worked_161 ?_
      exact rI (by subst hc9; show _ = (if a ≠ 0 ∨ b ≠ 0 then 1 else 0); have e := @sCmp_eq a 0; have e2 := @sCmp_eq b 0; split <;> omega)
    · refine aw_lload_n hO dX12_worked_150 rfl rfl ?_
      refine aw_lconst0 hO dX12_worked_151 rfl ?_
      refine aw_lcmp hO dX12_worked_152 rfl ⟨by omega, by omega⟩ ⟨by omega, by omega⟩ ?_
      refine aw_if_eq (tgt := 160) hO dX12_worked_153 rfl rfl (sCmp_R _ _) (fun c153 => ?_) (fun c153 => ?_)
      · refine aw_iconst hO dX12_worked_160 rfl ?_
        refine aw_iret hO dX12_worked_161 ?_
        exact rI (by subst hc9; show _ = (if a ≠ 0 ∨ b ≠ 0 then 1 else 0); have e := @sCmp_eq a 0; have e2 := @sCmp_eq b 0; split <;> omega)
      · refine aw_iconst hO dX12_worked_156 rfl ?_
        refine aw_goto (tgt := 161) hO dX12_worked_157 rfl ?_
        refine aw_iret hO dX12_worked_161 ?_
        exact rI (by subst hc9; show _ = (if a ≠ 0 ∨ b ≠ 0 then 1 else 0); have e := @sCmp_eq a 0; have e2 := @sCmp_eq b 0; split <;> omega)
  by_cases hc10 : c = 10
  · refine aw_tableIn (tgt := 126) hO dX12_worked_1 ⟨by omega, by omega⟩ (by omega) (by omega) (by rw [hc10]; rfl) rfl ?_
    refine aw_lload_n hO dX12_worked_126 rfl rfl ?_
    refine aw_lconst0 hO dX12_worked_127 rfl ?_
    refine aw_lcmp hO dX12_worked_128 rfl ⟨by omega, by omega⟩ ⟨by omega, by omega⟩ ?_
    refine aw_if_eq (tgt := 142) hO dX12_worked_129 rfl rfl (sCmp_R _ _) (fun c129 => ?_) (fun c129 => ?_)
    · refine aw_iconst hO dX12_worked_142 rfl ?_
      refine aw_iret hO dX12_worked_143 ?_
      exact rI (by subst hc10; show _ = (if a ≠ 0 ∧ b ≠ 0 then 1 else 0); have e := @sCmp_eq a 0; have e2 := @sCmp_eq b 0; split <;> omega)
    · refine aw_lload_n hO dX12_worked_132 rfl rfl ?_
      refine aw_lconst0 hO dX12_worked_133 rfl ?_
      refine aw_lcmp hO dX12_worked_134 rfl ⟨by omega, by omega⟩ ⟨by omega, by omega⟩ ?_
      refine aw_if_eq (tgt := 142) hO dX12_worked_135 rfl rfl (sCmp_R _ _) (fun c135 => ?_) (fun c135 => ?_)
      · refine aw_iconst hO dX12_worked_142 rfl ?_
        refine aw_iret hO dX12_worked_143 ?_
        exact rI (by subst hc10; show _ = (if a ≠ 0 ∧ b ≠ 0 then 1 else 0); have e := @sCmp_eq a 0; have e2 := @sCmp_eq b 0; split <;> omega)
      · refine aw_iconst hO dX12_worked_138 rfl ?_
        refine aw_goto (tgt := 143) hO dX12_worked_139 rfl ?_
        refine aw_iret hO dX12_worked_143 ?_
        exact rI (by subst hc10; show _ = (if a ≠ 0 ∧ b ≠ 0 then 1 else 0); have e := @sCmp_eq a 0; have e2 := @sCmp_eq b 0; split <;> omega)
  refine aw_tableOut (tgt := 144) hO dX12_worked_1 ⟨by omega, by omega⟩ (by omega) rfl ?_
  refine aw_lload_n hO dX12_worked_144 rfl rfl ?_
  refine aw_lconst0 hO dX12_worked_145 rfl ?_
  refine aw_lcmp hO dX12_worked_146 rfl ⟨by omega, by omega⟩ ⟨by omega, by omega⟩ ?_
  refine aw_if_ne (tgt := 156) hO dX12_worked_147 rfl rfl (sCmp_R _ _) (fun c147 => ?_) (fun c147 => ?_)
  · refine aw_iconst hO dX12_worked_156 rfl ?_
    refine aw_goto (tgt := 161) hO dX12_worked_157 rfl ?_
    refine aw_iret hO dX12_worked_161 ?_
    exact rI (by rw [wkd, if_neg hc2, if_neg hc3, if_neg hc4, if_neg hc5, if_neg hc6, if_neg hc7, if_neg hc8, if_neg hc10]; have e := @sCmp_eq a 0; have e2 := @sCmp_eq b 0; split <;> omega)
  · refine aw_lload_n hO dX12_worked_150 rfl rfl ?_
    refine aw_lconst0 hO dX12_worked_151 rfl ?_
    refine aw_lcmp hO dX12_worked_152 rfl ⟨by omega, by omega⟩ ⟨by omega, by omega⟩ ?_
    refine aw_if_eq (tgt := 160) hO dX12_worked_153 rfl rfl (sCmp_R _ _) (fun c153 => ?_) (fun c153 => ?_)
    · refine aw_iconst hO dX12_worked_160 rfl ?_
      refine aw_iret hO dX12_worked_161 ?_
      exact rI (by rw [wkd, if_neg hc2, if_neg hc3, if_neg hc4, if_neg hc5, if_neg hc6, if_neg hc7, if_neg hc8, if_neg hc10]; have e := @sCmp_eq a 0; have e2 := @sCmp_eq b 0; split <;> omega)
    · refine aw_iconst hO dX12_worked_156 rfl ?_
      refine aw_goto (tgt := 161) hO dX12_worked_157 rfl ?_
      refine aw_iret hO dX12_worked_161 ?_
      exact rI (by rw [wkd, if_neg hc2, if_neg hc3, if_neg hc4, if_neg hc5, if_neg hc6, if_neg hc7, if_neg hc8, if_neg hc10]; have e := @sCmp_eq a 0; have e2 := @sCmp_eq b 0; split <;> omega)
