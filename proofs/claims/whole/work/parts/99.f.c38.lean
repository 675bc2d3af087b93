/-! ## what the class is asked (5) -/
theorem dX11_most_0 : decode cX11_most 0 = .ok (.aload_n 0, 1) := by decide +kernel
theorem dX11_most_1 : decode cX11_most 1 = .ok (.getfield 41, 3) := by decide +kernel
theorem dX11_most_4 : decode cX11_most 4 = .ok (.invokevirtual 154, 3) := by decide +kernel
theorem dX11_most_7 : decode cX11_most 7 = .ok (.ifCond .ne 5, 3) := by decide +kernel
theorem dX11_most_10 : decode cX11_most 10 = .ok (.iconst (-1), 1) := by decide +kernel
theorem dX11_most_11 : decode cX11_most 11 = .ok (.ireturn, 1) := by decide +kernel
theorem dX11_most_12 : decode cX11_most 12 = .ok (.iload_n 1, 1) := by decide +kernel
theorem dX11_most_13 : decode cX11_most 13 = .ok (.tableswitch 206 0 11 #[63, 75, 87, 96, 105, 114, 122, 134, 142, 153, 186, 196], 63) := by decide +kernel
theorem dX11_most_76 : decode cX11_most 76 = .ok (.aload_n 0, 1) := by decide +kernel
theorem dX11_most_77 : decode cX11_most 77 = .ok (.getfield 83, 3) := by decide +kernel
theorem dX11_most_80 : decode cX11_most 80 = .ok (.aload_n 0, 1) := by decide +kernel
theorem dX11_most_81 : decode cX11_most 81 = .ok (.getfield 48, 3) := by decide +kernel
theorem dX11_most_84 : decode cX11_most 84 = .ok (.invokevirtual 342, 3) := by decide +kernel
theorem dX11_most_87 : decode cX11_most 87 = .ok (.ireturn, 1) := by decide +kernel
theorem dX11_most_88 : decode cX11_most 88 = .ok (.aload_n 0, 1) := by decide +kernel
theorem dX11_most_89 : decode cX11_most 89 = .ok (.getfield 83, 3) := by decide +kernel
theorem dX11_most_92 : decode cX11_most 92 = .ok (.aload_n 0, 1) := by decide +kernel
theorem dX11_most_93 : decode cX11_most 93 = .ok (.getfield 48, 3) := by decide +kernel
theorem dX11_most_96 : decode cX11_most 96 = .ok (.invokevirtual 346, 3) := by decide +kernel
theorem dX11_most_99 : decode cX11_most 99 = .ok (.ireturn, 1) := by decide +kernel
theorem dX11_most_100 : decode cX11_most 100 = .ok (.aload_n 0, 1) := by decide +kernel
theorem dX11_most_101 : decode cX11_most 101 = .ok (.getfield 41, 3) := by decide +kernel
theorem dX11_most_104 : decode cX11_most 104 = .ok (.iconst 2, 1) := by decide +kernel
theorem dX11_most_105 : decode cX11_most 105 = .ok (.invokevirtual 349, 3) := by decide +kernel
theorem dX11_most_108 : decode cX11_most 108 = .ok (.ireturn, 1) := by decide +kernel
theorem dX11_most_109 : decode cX11_most 109 = .ok (.aload_n 0, 1) := by decide +kernel
theorem dX11_most_110 : decode cX11_most 110 = .ok (.getfield 41, 3) := by decide +kernel
theorem dX11_most_113 : decode cX11_most 113 = .ok (.iconst 0, 1) := by decide +kernel
theorem dX11_most_114 : decode cX11_most 114 = .ok (.invokevirtual 349, 3) := by decide +kernel
theorem dX11_most_117 : decode cX11_most 117 = .ok (.ireturn, 1) := by decide +kernel
theorem dX11_most_118 : decode cX11_most 118 = .ok (.aload_n 0, 1) := by decide +kernel
theorem dX11_most_119 : decode cX11_most 119 = .ok (.getfield 41, 3) := by decide +kernel
theorem dX11_most_122 : decode cX11_most 122 = .ok (.iconst 1, 1) := by decide +kernel
theorem dX11_most_123 : decode cX11_most 123 = .ok (.invokevirtual 349, 3) := by decide +kernel
theorem dX11_most_126 : decode cX11_most 126 = .ok (.ireturn, 1) := by decide +kernel
theorem dX11_most_127 : decode cX11_most 127 = .ok (.aload_n 0, 1) := by decide +kernel
theorem dX11_most_128 : decode cX11_most 128 = .ok (.getfield 41, 3) := by decide +kernel
theorem dX11_most_131 : decode cX11_most 131 = .ok (.invokevirtual 352, 3) := by decide +kernel
theorem dX11_most_134 : decode cX11_most 134 = .ok (.ireturn, 1) := by decide +kernel
theorem dX11_most_135 : decode cX11_most 135 = .ok (.aload_n 0, 1) := by decide +kernel
theorem dX11_most_136 : decode cX11_most 136 = .ok (.getfield 67, 3) := by decide +kernel
theorem dX11_most_139 : decode cX11_most 139 = .ok (.aload_n 0, 1) := by decide +kernel
theorem dX11_most_140 : decode cX11_most 140 = .ok (.getfield 48, 3) := by decide +kernel
theorem dX11_most_143 : decode cX11_most 143 = .ok (.invokevirtual 355, 3) := by decide +kernel
theorem dX11_most_146 : decode cX11_most 146 = .ok (.ireturn, 1) := by decide +kernel
theorem dX11_most_147 : decode cX11_most 147 = .ok (.aload_n 0, 1) := by decide +kernel
theorem dX11_most_148 : decode cX11_most 148 = .ok (.getfield 48, 3) := by decide +kernel
theorem dX11_most_151 : decode cX11_most 151 = .ok (.invokevirtual 358, 3) := by decide +kernel
theorem dX11_most_154 : decode cX11_most 154 = .ok (.ireturn, 1) := by decide +kernel
theorem dX11_most_155 : decode cX11_most 155 = .ok (.aload_n 0, 1) := by decide +kernel
theorem dX11_most_156 : decode cX11_most 156 = .ok (.getfield 48, 3) := by decide +kernel
theorem dX11_most_159 : decode cX11_most 159 = .ok (.getfield 158, 3) := by decide +kernel
theorem dX11_most_162 : decode cX11_most 162 = .ok (.bipush 7, 2) := by decide +kernel
theorem dX11_most_164 : decode cX11_most 164 = .ok (.iaload, 1) := by decide +kernel
theorem dX11_most_165 : decode cX11_most 165 = .ok (.ireturn, 1) := by decide +kernel
theorem dX11_most_166 : decode cX11_most 166 = .ok (.aload_n 0, 1) := by decide +kernel
theorem dX11_most_167 : decode cX11_most 167 = .ok (.getfield 41, 3) := by decide +kernel
theorem dX11_most_170 : decode cX11_most 170 = .ok (.invokevirtual 361, 3) := by decide +kernel
theorem dX11_most_173 : decode cX11_most 173 = .ok (.aload_n 0, 1) := by decide +kernel
theorem dX11_most_174 : decode cX11_most 174 = .ok (.getfield 76, 3) := by decide +kernel
theorem dX11_most_177 : decode cX11_most 177 = .ok (.aload_n 0, 1) := by decide +kernel
theorem dX11_most_178 : decode cX11_most 178 = .ok (.getfield 48, 3) := by decide +kernel
theorem dX11_most_181 : decode cX11_most 181 = .ok (.aload_n 0, 1) := by decide +kernel
theorem dX11_most_182 : decode cX11_most 182 = .ok (.getfield 67, 3) := by decide +kernel
theorem dX11_most_185 : decode cX11_most 185 = .ok (.aload_n 0, 1) := by decide +kernel
theorem dX11_most_186 : decode cX11_most 186 = .ok (.getfield 48, 3) := by decide +kernel
theorem dX11_most_189 : decode cX11_most 189 = .ok (.invokevirtual 355, 3) := by decide +kernel
theorem dX11_most_192 : decode cX11_most 192 = .ok (.invokevirtual 364, 3) := by decide +kernel
theorem dX11_most_195 : decode cX11_most 195 = .ok (.iconst (-1), 1) := by decide +kernel
theorem dX11_most_196 : decode cX11_most 196 = .ok (.ixor, 1) := by decide +kernel
theorem dX11_most_197 : decode cX11_most 197 = .ok (.iand, 1) := by decide +kernel
theorem dX11_most_198 : decode cX11_most 198 = .ok (.ireturn, 1) := by decide +kernel
theorem dX11_most_199 : decode cX11_most 199 = .ok (.aload_n 0, 1) := by decide +kernel
theorem dX11_most_200 : decode cX11_most 200 = .ok (.getfield 48, 3) := by decide +kernel
theorem dX11_most_203 : decode cX11_most 203 = .ok (.getfield 158, 3) := by decide +kernel
theorem dX11_most_206 : decode cX11_most 206 = .ok (.iconst 4, 1) := by decide +kernel
theorem dX11_most_207 : decode cX11_most 207 = .ok (.iaload, 1) := by decide +kernel
theorem dX11_most_208 : decode cX11_most 208 = .ok (.ireturn, 1) := by decide +kernel
theorem dX11_most_209 : decode cX11_most 209 = .ok (.aload_n 0, 1) := by decide +kernel
theorem dX11_most_210 : decode cX11_most 210 = .ok (.getfield 48, 3) := by decide +kernel
theorem dX11_most_213 : decode cX11_most 213 = .ok (.getfield 158, 3) := by decide +kernel
theorem dX11_most_216 : decode cX11_most 216 = .ok (.iconst 5, 1) := by decide +kernel
theorem dX11_most_217 : decode cX11_most 217 = .ok (.iaload, 1) := by decide +kernel
theorem dX11_most_218 : decode cX11_most 218 = .ok (.ireturn, 1) := by decide +kernel
theorem dX11_most_219 : decode cX11_most 219 = .ok (.iconst (-1), 1) := by decide +kernel
theorem dX11_most_220 : decode cX11_most 220 = .ok (.ireturn, 1) := by decide +kernel
set_option maxHeartbeats 4000000 in
set_option maxRecDepth 100000 in
theorem cP_most {μ ν : Mm} (h : Rel μ ν) {v : Int} (hv : InR v) : CtE PC 6 yX11_most cX11_most 2 (some .int) [vR 0, vI v] μ (fun r m => r = (if ν.1 0 25 ≠ 0 ∧ (0 ≤ v ∧ v ≤ 11) then mosM ν v else -1) ∧ QF μ m) := by
  refine ct_intro [some (vR 0), some (vI v)] RX11 (by decide) rfl XCo rfl (Nat.le_of_ble_eq_true rfl) (fun K hO => ?_)
  obtain ⟨c, hc, hlc1, hlc2, hl3, hl4, hl5⟩ := h.L
  obtain ⟨N, hN, hN1, hN2, hN3⟩ := h.P
  obtain ⟨a, x, ha, hx, ha1, ha2, ha3, ha4⟩ := h.A
  have hnp := h.B.np
  have hnt := h.B.nt
  have hr := h.B.now.rest
  have hN15 := h.N.2.1
  refine aw_aload_n hO dX11_most_0 rfl rfl ?_
  refine gC_X11_41_0 hO dX11_most_1 rfl ?_
  refine aw_callVI (as := []) (st := []) hO dX11_most_4 rfl (lw_t3 96 rfl rfl) kX9_isTold (T := TX9) rfl (by decide) rfl (cJ_isTold h.JR.z) (by decide) rfl rfl rfl (Nat.le_of_ble_eq_true rfl) ?_
  refine aw_ifz_ne (tgt := 12) hO dX11_most_7 rfl rfl (fun c7 => ?_) (fun c7 => ?_)
  · refine aw_iload_n hO dX11_most_12 rfl rfl ?_
    by_cases hc0 : v = 0
    · refine aw_tableIn (tgt := 76) hO dX11_most_13 hv (by omega) (by omega) (by rw [hc0]; rfl) rfl ?_
      refine aw_aload_n hO dX11_most_76 rfl rfl ?_
      refine gC_X11_83_0 hO dX11_most_77 rfl ?_
      refine aw_aload_n hO dX11_most_80 rfl rfl ?_
      refine gC_X11_48_0 hO dX11_most_81 rfl ?_
      refine aw_callVE (as := [vR 27]) (st := []) hO dX11_most_84 rfl (lw_t5 93 rfl rfl) kX6_favourite (T := TX6) rfl (by decide) rfl (cJ_favourite h.JR) (by decide) rfl rfl rfl (Nat.le_of_ble_eq_true rfl) (fun v1 μ2 hq3 => ?_)
      obtain ⟨e_v1, hF_μ2⟩ := hq3
      refine aw_iret hO dX11_most_87 ?_
      exact ⟨_, rfl, by rw [if_pos ⟨c7, by omega⟩, e_v1]; unfold mosM; rw [if_neg (show ¬ v = 5 by omega), if_neg (show ¬ v = 6 by omega), if_neg (show ¬ v = 7 by omega), if_neg (show ¬ v = 8 by omega), if_neg (show ¬ v = 9 by omega), if_neg (show ¬ v = 10 by omega), if_neg (show ¬ v = 11 by omega)]; exact congrArg (fun f => best allT f _) (funext fun p => by unfold valM; rw [if_pos hc0]), QF.j hF_μ2⟩
    by_cases hc1 : v = 1
    · refine aw_tableIn (tgt := 88) hO dX11_most_13 hv (by omega) (by omega) (by rw [hc1]; rfl) rfl ?_
      refine aw_aload_n hO dX11_most_88 rfl rfl ?_
      refine gC_X11_83_0 hO dX11_most_89 rfl ?_
      refine aw_aload_n hO dX11_most_92 rfl rfl ?_
      refine gC_X11_48_0 hO dX11_most_93 rfl ?_
      refine aw_callVI (as := [vR 27]) (st := []) hO dX11_most_96 rfl (lw_t5 98 rfl rfl) kX6_chained (T := TX6) rfl (by decide) rfl (cJ_chained h.JR c7) (by decide) rfl rfl rfl (Nat.le_of_ble_eq_true rfl) ?_
      refine aw_iret hO dX11_most_99 ?_
      exact ⟨_, rfl, by rw [if_pos ⟨c7, by omega⟩]; unfold mosM; rw [if_neg (show ¬ v = 5 by omega), if_neg (show ¬ v = 6 by omega), if_neg (show ¬ v = 7 by omega), if_neg (show ¬ v = 8 by omega), if_neg (show ¬ v = 9 by omega), if_neg (show ¬ v = 10 by omega), if_neg (show ¬ v = 11 by omega)]; exact congrArg (fun f => best allT f _) (funext fun p => by unfold valM; rw [if_neg (by omega), if_pos hc1]), QF.rf⟩
    by_cases hc2 : v = 2
    · refine aw_tableIn (tgt := 100) hO dX11_most_13 hv (by omega) (by omega) (by rw [hc2]; rfl) rfl ?_
      refine aw_aload_n hO dX11_most_100 rfl rfl ?_
      refine gC_X11_41_0 hO dX11_most_101 rfl ?_
      refine aw_iconst hO dX11_most_104 rfl ?_
      refine aw_callVI (as := [vI ((2 : Nat) : Int)]) (st := []) hO dX11_most_105 rfl (lw_t5 102 rfl rfl) kX9_mostOf (T := TX9) rfl (by decide) rfl (cJ_mostOf h.JR.z (k := 2) (by decide)) (by decide) rfl rfl rfl (Nat.le_of_ble_eq_true rfl) ?_
      refine aw_iret hO dX11_most_108 ?_
      exact ⟨_, rfl, by rw [if_pos ⟨c7, by omega⟩]; unfold mosM; rw [if_neg (show ¬ v = 5 by omega), if_neg (show ¬ v = 6 by omega), if_neg (show ¬ v = 7 by omega), if_neg (show ¬ v = 8 by omega), if_neg (show ¬ v = 9 by omega), if_neg (show ¬ v = 10 by omega), if_neg (show ¬ v = 11 by omega)]; exact congrArg (fun f => best allT f _) (funext fun p => by unfold valM; rw [if_neg (by omega), if_neg (by omega), if_pos hc2]), QF.rf⟩
    by_cases hc3 : v = 3
    · refine aw_tableIn (tgt := 109) hO dX11_most_13 hv (by omega) (by omega) (by rw [hc3]; rfl) rfl ?_
      refine aw_aload_n hO dX11_most_109 rfl rfl ?_
      refine gC_X11_41_0 hO dX11_most_110 rfl ?_
      refine aw_iconst hO dX11_most_113 rfl ?_
      refine aw_callVI (as := [vI ((0 : Nat) : Int)]) (st := []) hO dX11_most_114 rfl (lw_t5 102 rfl rfl) kX9_mostOf (T := TX9) rfl (by decide) rfl (cJ_mostOf h.JR.z (k := 0) (by decide)) (by decide) rfl rfl rfl (Nat.le_of_ble_eq_true rfl) ?_
      refine aw_iret hO dX11_most_117 ?_
      exact ⟨_, rfl, by rw [if_pos ⟨c7, by omega⟩]; unfold mosM; rw [if_neg (show ¬ v = 5 by omega), if_neg (show ¬ v = 6 by omega), if_neg (show ¬ v = 7 by omega), if_neg (show ¬ v = 8 by omega), if_neg (show ¬ v = 9 by omega), if_neg (show ¬ v = 10 by omega), if_neg (show ¬ v = 11 by omega)]; exact congrArg (fun f => best allT f _) (funext fun p => by unfold valM; rw [if_neg (by omega), if_neg (by omega), if_neg (by omega), if_pos hc3]; rfl), QF.rf⟩
    by_cases hc4 : v = 4
    · refine aw_tableIn (tgt := 118) hO dX11_most_13 hv (by omega) (by omega) (by rw [hc4]; rfl) rfl ?_
      refine aw_aload_n hO dX11_most_118 rfl rfl ?_
      refine gC_X11_41_0 hO dX11_most_119 rfl ?_
      refine aw_iconst hO dX11_most_122 rfl ?_
      refine aw_callVI (as := [vI ((1 : Nat) : Int)]) (st := []) hO dX11_most_123 rfl (lw_t5 102 rfl rfl) kX9_mostOf (T := TX9) rfl (by decide) rfl (cJ_mostOf h.JR.z (k := 1) (by decide)) (by decide) rfl rfl rfl (Nat.le_of_ble_eq_true rfl) ?_
      refine aw_iret hO dX11_most_126 ?_
      exact ⟨_, rfl, by rw [if_pos ⟨c7, by omega⟩]; unfold mosM; rw [if_neg (show ¬ v = 5 by omega), if_neg (show ¬ v = 6 by omega), if_neg (show ¬ v = 7 by omega), if_neg (show ¬ v = 8 by omega), if_neg (show ¬ v = 9 by omega), if_neg (show ¬ v = 10 by omega), if_neg (show ¬ v = 11 by omega)]; exact congrArg (fun f => best allT f _) (funext fun p => by unfold valM; rw [if_neg (by omega), if_neg (by omega), if_neg (by omega), if_neg (by omega)]), QF.rf⟩
    by_cases hc5 : v = 5
    · refine aw_tableIn (tgt := 127) hO dX11_most_13 hv (by omega) (by omega) (by rw [hc5]; rfl) rfl ?_
      refine aw_aload_n hO dX11_most_127 rfl rfl ?_
      refine gC_X11_41_0 hO dX11_most_128 rfl ?_
      refine aw_callVI (as := []) (st := []) hO dX11_most_131 rfl (lw_t5 108 rfl rfl) kX9_gravest (T := TX9) rfl (by decide) rfl (cJ_gravest h.JR.z) (by decide) rfl rfl rfl (Nat.le_of_ble_eq_true rfl) ?_
      refine aw_iret hO dX11_most_134 ?_
      exact ⟨_, rfl, by rw [if_pos ⟨c7, by omega⟩]; unfold mosM; rw [if_pos hc5]; split; (next e => rw [e]; rfl); rfl, QF.rf⟩
    by_cases hc6 : v = 6
    · refine aw_tableIn (tgt := 135) hO dX11_most_13 hv (by omega) (by omega) (by rw [hc6]; rfl) rfl ?_
      refine aw_aload_n hO dX11_most_135 rfl rfl ?_
      refine gC_X11_67_0 hO dX11_most_136 rfl ?_
      refine aw_aload_n hO dX11_most_139 rfl rfl ?_
      refine gC_X11_48_0 hO dX11_most_140 rfl ?_
      refine aw_callVE (as := [vR 27]) (st := []) hO dX11_most_143 rfl (lw_t5 113 rfl rfl) kX3_picked (T := TX3) rfl (by decide) rfl (cJ_picked h.JR) (by decide) rfl rfl rfl (Nat.le_of_ble_eq_true rfl) (fun v4 μ5 hq6 => ?_)
      obtain ⟨e_v4, hF_μ5⟩ := hq6
      refine aw_iret hO dX11_most_146 ?_
      exact ⟨_, rfl, by rw [if_pos ⟨c7, by omega⟩, e_v4]; unfold mosM; rw [if_neg (show ¬ v = 5 by omega), if_pos hc6], QF.j hF_μ5⟩
    by_cases hc7 : v = 7
    · refine aw_tableIn (tgt := 147) hO dX11_most_13 hv (by omega) (by omega) (by rw [hc7]; rfl) rfl ?_
      refine aw_aload_n hO dX11_most_147 rfl rfl ?_
      refine gC_X11_48_0 hO dX11_most_148 rfl ?_
      refine aw_callVI (as := []) (st := []) hO dX11_most_151 rfl (lw_t5 114 rfl rfl) kX7_metBits (T := TX7) rfl (by decide) rfl (cJ_metBits sob27 h.S.1 h.B.now) (by decide) rfl rfl rfl (Nat.le_of_ble_eq_true rfl) ?_
      refine aw_iret hO dX11_most_154 ?_
      exact ⟨_, rfl, by rw [if_pos ⟨c7, by omega⟩]; unfold mosM; rw [if_neg (show ¬ v = 5 by omega), if_neg (show ¬ v = 6 by omega), if_pos hc7]; have := metO_same (f := ν.1 17) (n := (ν.1 0 25).toNat) (by omega) (fun p hp hn => h.S.2.2.2.2 p hp (by omega)) (6 - (ν.1 0 25).toNat) (by omega); rw [show (ν.1 0 25).toNat + (6 - (ν.1 0 25).toNat) = 6 by omega] at this; exact this, QF.rf⟩
    by_cases hc8 : v = 8
    · refine aw_tableIn (tgt := 155) hO dX11_most_13 hv (by omega) (by omega) (by rw [hc8]; rfl) rfl ?_
      refine aw_aload_n hO dX11_most_155 rfl rfl ?_
      refine gC_X11_48_0 hO dX11_most_156 rfl ?_
      refine gC_X11_158_27 hO dX11_most_159 rfl ?_
      refine aw_bipush hO dX11_most_162 rfl (by decide) (by decide) ?_
      refine aw_ialdn (N := 98) (i := 7) hO dX11_most_164 rfl (by decide) rfl (by decide) rfl (by decide) ?_
      refine aw_cg h.JR.S.aw ?_
      refine aw_iret hO dX11_most_165 ?_
      exact ⟨_, rfl, by rw [if_pos ⟨c7, by omega⟩]; unfold mosM; rw [if_neg (show ¬ v = 5 by omega), if_neg (show ¬ v = 6 by omega), if_neg (show ¬ v = 7 by omega), if_pos hc8], QF.rf⟩
    by_cases hc9 : v = 9
    · refine aw_tableIn (tgt := 166) hO dX11_most_13 hv (by omega) (by omega) (by rw [hc9]; rfl) rfl ?_
      refine aw_aload_n hO dX11_most_166 rfl rfl ?_
      refine gC_X11_41_0 hO dX11_most_167 rfl ?_
      refine aw_callVI (as := []) (st := []) hO dX11_most_170 rfl (lw_t5 115 rfl rfl) kX9_allTroubles (T := TX9) rfl (by decide) rfl (cJ_allTroubles h.JR.z) (by decide) rfl rfl rfl (Nat.le_of_ble_eq_true rfl) ?_
      refine aw_aload_n hO dX11_most_173 rfl rfl ?_
      refine gC_X11_76_0 hO dX11_most_174 rfl ?_
      refine aw_aload_n hO dX11_most_177 rfl rfl ?_
      refine gC_X11_48_0 hO dX11_most_178 rfl ?_
      refine aw_aload_n hO dX11_most_181 rfl rfl ?_
      refine gC_X11_67_0 hO dX11_most_182 rfl ?_
      refine aw_aload_n hO dX11_most_185 rfl rfl ?_
      refine gC_X11_48_0 hO dX11_most_186 rfl ?_
      refine aw_callVE (as := [vR 27]) (st := [vR 27, vR 76, vI (bShl 1 (ν.1 0 26) - 1)]) hO dX11_most_189 rfl (lw_t5 113 rfl rfl) kX3_picked (T := TX3) rfl (by decide) rfl (cJ_picked h.JR) (by decide) rfl rfl rfl (Nat.le_of_ble_eq_true rfl) (fun v7 μ8 hq9 => ?_)
      obtain ⟨e_v7, hF_μ8⟩ := hq9
      have hJp := h.JR.fj hF_μ8
      have hpr := pickM_rng ν (ν.1 0 25).toNat
      refine aw_callVI (as := [vR 27, vI v7]) (st := [vI (bShl 1 (ν.1 0 26) - 1)]) hO dX11_most_192 rfl (lw_t5 119 rfl rfl) kX1_metBy (T := TX1) rfl (by decide) rfl (cJ_metBy hJp.z sob27 hJp.S (fun _ _ => rfl) (q := v7) (by rw [e_v7]; omega)) (by decide) rfl rfl rfl (Nat.le_of_ble_eq_true rfl) ?_
      refine aw_iconst hO dX11_most_195 rfl ?_
      refine aw_ixor hO dX11_most_196 rfl ?_
      refine aw_iand hO dX11_most_197 rfl ?_
      refine aw_iret hO dX11_most_198 ?_
      exact ⟨_, rfl, by rw [if_pos ⟨c7, by omega⟩, e_v7]; unfold mosM; rw [if_neg (show ¬ v = 5 by omega), if_neg (show ¬ v = 6 by omega), if_neg (show ¬ v = 7 by omega), if_neg (show ¬ v = 8 by omega), if_pos hc9], QF.j hF_μ8⟩
    by_cases hc10 : v = 10
    · refine aw_tableIn (tgt := 199) hO dX11_most_13 hv (by omega) (by omega) (by rw [hc10]; rfl) rfl ?_
      refine aw_aload_n hO dX11_most_199 rfl rfl ?_
      refine gC_X11_48_0 hO dX11_most_200 rfl ?_
      refine gC_X11_158_27 hO dX11_most_203 rfl ?_
      refine aw_iconst hO dX11_most_206 rfl ?_
      refine aw_ialdn (N := 98) (i := 4) hO dX11_most_207 rfl (by decide) rfl (by decide) rfl (by decide) ?_
      refine aw_cg h.JR.S.sc.2.2.2.2.1 ?_
      refine aw_iret hO dX11_most_208 ?_
      exact ⟨_, rfl, by rw [if_pos ⟨c7, by omega⟩]; unfold mosM; rw [if_neg (show ¬ v = 5 by omega), if_neg (show ¬ v = 6 by omega), if_neg (show ¬ v = 7 by omega), if_neg (show ¬ v = 8 by omega), if_neg (show ¬ v = 9 by omega), if_pos hc10], QF.rf⟩
    by_cases hc11 : v = 11
    · refine aw_tableIn (tgt := 209) hO dX11_most_13 hv (by omega) (by omega) (by rw [hc11]; rfl) rfl ?_
      refine aw_aload_n hO dX11_most_209 rfl rfl ?_
      refine gC_X11_48_0 hO dX11_most_210 rfl ?_
      refine gC_X11_158_27 hO dX11_most_213 rfl ?_
      refine aw_iconst hO dX11_most_216 rfl ?_
      refine aw_ialdn (N := 98) (i := 5) hO dX11_most_217 rfl (by decide) rfl (by decide) rfl (by decide) ?_
      refine aw_cg h.JR.S.sc.2.2.2.2.2.1 ?_
      refine aw_iret hO dX11_most_218 ?_
      exact ⟨_, rfl, by rw [if_pos ⟨c7, by omega⟩]; unfold mosM; rw [if_neg (show ¬ v = 5 by omega), if_neg (show ¬ v = 6 by omega), if_neg (show ¬ v = 7 by omega), if_neg (show ¬ v = 8 by omega), if_neg (show ¬ v = 9 by omega), if_neg (show ¬ v = 10 by omega), if_pos hc11], QF.rf⟩
    refine aw_tableOut (tgt := 219) hO dX11_most_13 hv (by omega) rfl ?_
    refine aw_iconst hO dX11_most_219 rfl ?_
    refine aw_iret hO dX11_most_220 ?_
    exact ⟨_, rfl, by rw [if_neg (fun z => by have := z.2; omega)], QF.rf⟩
  · refine aw_iconst hO dX11_most_10 rfl ?_
    refine aw_iret hO dX11_most_11 ?_
    exact ⟨_, rfl, by rw [if_neg (fun z => z.1 (by omega))], QF.rf⟩
theorem dX11_game_0 : decode cX11_game 0 = .ok (.aload_n 0, 1) := by decide +kernel
theorem dX11_game_1 : decode cX11_game 1 = .ok (.iload_n 1, 1) := by decide +kernel
theorem dX11_game_2 : decode cX11_game 2 = .ok (.iload_n 2, 1) := by decide +kernel
theorem dX11_game_3 : decode cX11_game 3 = .ok (.invokevirtual 321, 3) := by decide +kernel
theorem dX11_game_6 : decode cX11_game 6 = .ok (.ifCond .eq 14, 3) := by decide +kernel
theorem dX11_game_9 : decode cX11_game 9 = .ok (.iload 5, 2) := by decide +kernel
theorem dX11_game_11 : decode cX11_game 11 = .ok (.ifCond .lt 9, 3) := by decide +kernel
theorem dX11_game_14 : decode cX11_game 14 = .ok (.iload 5, 2) := by decide +kernel
theorem dX11_game_16 : decode cX11_game 16 = .ok (.iconst 1, 1) := by decide +kernel
theorem dX11_game_17 : decode cX11_game 17 = .ok (.if_icmp .le 7, 3) := by decide +kernel
theorem dX11_game_20 : decode cX11_game 20 = .ok (.ldc_w 258, 3) := by decide +kernel
theorem dX11_game_23 : decode cX11_game 23 = .ok (.ireturn, 1) := by decide +kernel
theorem dX11_game_24 : decode cX11_game 24 = .ok (.iload_n 3, 1) := by decide +kernel
theorem dX11_game_25 : decode cX11_game 25 = .ok (.ifCond .lt 19, 3) := by decide +kernel
theorem dX11_game_28 : decode cX11_game 28 = .ok (.iload_n 3, 1) := by decide +kernel
theorem dX11_game_29 : decode cX11_game 29 = .ok (.iconst 3, 1) := by decide +kernel
theorem dX11_game_30 : decode cX11_game 30 = .ok (.if_icmp .gt 14, 3) := by decide +kernel
theorem dX11_game_33 : decode cX11_game 33 = .ok (.iload 4, 2) := by decide +kernel
theorem dX11_game_35 : decode cX11_game 35 = .ok (.ifCond .lt 9, 3) := by decide +kernel
theorem dX11_game_38 : decode cX11_game 38 = .ok (.iload 4, 2) := by decide +kernel
theorem dX11_game_40 : decode cX11_game 40 = .ok (.iconst 3, 1) := by decide +kernel
theorem dX11_game_41 : decode cX11_game 41 = .ok (.if_icmp .le 7, 3) := by decide +kernel
theorem dX11_game_44 : decode cX11_game 44 = .ok (.ldc_w 258, 3) := by decide +kernel
theorem dX11_game_47 : decode cX11_game 47 = .ok (.ireturn, 1) := by decide +kernel
theorem dX11_game_48 : decode cX11_game 48 = .ok (.aload_n 0, 1) := by decide +kernel
theorem dX11_game_49 : decode cX11_game 49 = .ok (.getfield 83, 3) := by decide +kernel
theorem dX11_game_52 : decode cX11_game 52 = .ok (.aload_n 0, 1) := by decide +kernel
theorem dX11_game_53 : decode cX11_game 53 = .ok (.getfield 48, 3) := by decide +kernel
theorem dX11_game_56 : decode cX11_game 56 = .ok (.iload_n 1, 1) := by decide +kernel
theorem dX11_game_57 : decode cX11_game 57 = .ok (.iload_n 2, 1) := by decide +kernel
theorem dX11_game_58 : decode cX11_game 58 = .ok (.invokevirtual 324, 3) := by decide +kernel
theorem dX11_game_61 : decode cX11_game 61 = .ok (.iload 5, 2) := by decide +kernel
theorem dX11_game_63 : decode cX11_game 63 = .ok (.ifCond .ne 18, 3) := by decide +kernel
theorem dX11_game_66 : decode cX11_game 66 = .ok (.aload_n 0, 1) := by decide +kernel
theorem dX11_game_67 : decode cX11_game 67 = .ok (.getfield 83, 3) := by decide +kernel
theorem dX11_game_70 : decode cX11_game 70 = .ok (.iload_n 1, 1) := by decide +kernel
theorem dX11_game_71 : decode cX11_game 71 = .ok (.iload_n 3, 1) := by decide +kernel
theorem dX11_game_72 : decode cX11_game 72 = .ok (.iload_n 3, 1) := by decide +kernel
theorem dX11_game_73 : decode cX11_game 73 = .ok (.iload 4, 2) := by decide +kernel
theorem dX11_game_75 : decode cX11_game 75 = .ok (.invokevirtual 328, 3) := by decide +kernel
theorem dX11_game_78 : decode cX11_game 78 = .ok (.goto 16, 3) := by decide +kernel
theorem dX11_game_81 : decode cX11_game 81 = .ok (.aload_n 0, 1) := by decide +kernel
theorem dX11_game_82 : decode cX11_game 82 = .ok (.getfield 83, 3) := by decide +kernel
theorem dX11_game_85 : decode cX11_game 85 = .ok (.iload_n 2, 1) := by decide +kernel
theorem dX11_game_86 : decode cX11_game 86 = .ok (.iload 4, 2) := by decide +kernel
theorem dX11_game_88 : decode cX11_game 88 = .ok (.iload_n 3, 1) := by decide +kernel
theorem dX11_game_89 : decode cX11_game 89 = .ok (.iload 4, 2) := by decide +kernel
theorem dX11_game_91 : decode cX11_game 91 = .ok (.invokevirtual 328, 3) := by decide +kernel
theorem dX11_game_94 : decode cX11_game 94 = .ok (.ireturn, 1) := by decide +kernel
set_option maxHeartbeats 4000000 in
set_option maxRecDepth 100000 in
theorem cP_game {μ ν : Mm} (h : Rel μ ν) {v u x y w : Int} (hv : InR v) (hu : InR u) (hx : InR x) (hy : InR y) (hw : InR w) [Decidable (twoP ν v u)] : CtE PC 5 yX11_game cX11_game 6 (some .int) [vR 0, vI v, vI u, vI x, vI y, vI w] μ (fun r m => r = (if twoP ν v u ∧ (0 ≤ x ∧ x ≤ 3) ∧ (0 ≤ y ∧ y ≤ 3) ∧ (0 ≤ w ∧ w ≤ 1) then gamM ν v.toNat u.toNat x y w else -1000000) ∧ QF μ m) := by
  refine ct_intro [some (vR 0), some (vI v), some (vI u), some (vI x), some (vI y), some (vI w)] RX11 (by decide) rfl XCo rfl (Nat.le_of_ble_eq_true rfl) (fun K hO => ?_)
  obtain ⟨c, hc, hlc1, hlc2, hl3, hl4, hl5⟩ := h.L
  obtain ⟨N, hN, hN1, hN2, hN3⟩ := h.P
  obtain ⟨a, x0, ha, hx0, ha1, ha2, ha3, ha4⟩ := h.A
  have hnp := h.B.np
  have hnt := h.B.nt
  have hr := h.B.now.rest
  have hN15 := h.N.2.1
  refine aw_aload_n hO dX11_game_0 rfl rfl ?_
  refine aw_iload_n hO dX11_game_1 rfl rfl ?_
  refine aw_iload_n hO dX11_game_2 rfl rfl ?_
  refine aw_callVI (as := [vI v, vI u]) (st := []) hO dX11_game_3 rfl (lw_t5 33 rfl rfl) kX11_isPair (T := TX11) rfl (by decide) rfl (cP_isPair h hv hu) (by decide) rfl rfl rfl (Nat.le_of_ble_eq_true rfl) ?_
  refine aw_ifz_eq (tgt := 20) hO dX11_game_6 rfl rfl (fun c6 => ?_) (fun c6 => ?_)
  · refine aw_ldcw (a := (-1000000)) hO dX11_game_20 rfl (lw_t4 125 rfl rfl) ?_
    refine aw_iret hO dX11_game_23 ?_
    exact ⟨_, rfl, by rw [if_neg (fun z => c6 z.1)], QF.rf⟩
  · have hij := c6.2.2.1
    refine aw_iload hO dX11_game_9 rfl rfl ?_
    refine aw_if_lt (tgt := 20) hO dX11_game_11 rfl rfl hw (fun c11 => ?_) (fun c11 => ?_)
    · refine aw_ldcw (a := (-1000000)) hO dX11_game_20 rfl (lw_t4 125 rfl rfl) ?_
      refine aw_iret hO dX11_game_23 ?_
      exact ⟨_, rfl, by rw [if_neg (fun z => by have := z.2.2.2; omega)], QF.rf⟩
    · refine aw_iload hO dX11_game_14 rfl rfl ?_
      refine aw_iconst hO dX11_game_16 rfl ?_
      refine aw_icmp_le (tgt := 24) hO dX11_game_17 rfl rfl hw (inRlit _) (fun c17 => ?_) (fun c17 => ?_)
      · refine aw_iload_n hO dX11_game_24 rfl rfl ?_
        refine aw_if_lt (tgt := 44) hO dX11_game_25 rfl rfl hx (fun c25 => ?_) (fun c25 => ?_)
        · refine aw_ldcw (a := (-1000000)) hO dX11_game_44 rfl (lw_t4 125 rfl rfl) ?_
          refine aw_iret hO dX11_game_47 ?_
          exact ⟨_, rfl, by rw [if_neg (fun z => by have := z.2.1; have := z.2.2.1; omega)], QF.rf⟩
        · refine aw_iload_n hO dX11_game_28 rfl rfl ?_
          refine aw_iconst hO dX11_game_29 rfl ?_
          refine aw_icmp_gt (tgt := 44) hO dX11_game_30 rfl rfl hx (inRlit _) (fun c30 => ?_) (fun c30 => ?_)
          · refine aw_ldcw (a := (-1000000)) hO dX11_game_44 rfl (lw_t4 125 rfl rfl) ?_
            refine aw_iret hO dX11_game_47 ?_
            exact ⟨_, rfl, by rw [if_neg (fun z => by have := z.2.1; have := z.2.2.1; omega)], QF.rf⟩
          · refine aw_iload hO dX11_game_33 rfl rfl ?_
            refine aw_if_lt (tgt := 44) hO dX11_game_35 rfl rfl hy (fun c35 => ?_) (fun c35 => ?_)
            · refine aw_ldcw (a := (-1000000)) hO dX11_game_44 rfl (lw_t4 125 rfl rfl) ?_
              refine aw_iret hO dX11_game_47 ?_
              exact ⟨_, rfl, by rw [if_neg (fun z => by have := z.2.1; have := z.2.2.1; omega)], QF.rf⟩
            · refine aw_iload hO dX11_game_38 rfl rfl ?_
              refine aw_iconst hO dX11_game_40 rfl ?_
              refine aw_icmp_le (tgt := 48) hO dX11_game_41 rfl rfl hy (inRlit _) (fun c41 => ?_) (fun c41 => ?_)
              · have q1 := c6.1
                have q2 := c6.2.1
                obtain ⟨i, hie⟩ := Int.eq_ofNat_of_zero_le q1.1
                obtain ⟨j, hje⟩ := Int.eq_ofNat_of_zero_le q2.1
                obtain ⟨x1, hxe⟩ := Int.eq_ofNat_of_zero_le c25
                obtain ⟨y1, hye⟩ := Int.eq_ofNat_of_zero_le c35
                subst hie hje hxe hye
                refine aw_aload_n hO dX11_game_48 rfl rfl ?_
                refine gC_X11_83_0 hO dX11_game_49 rfl ?_
                refine aw_aload_n hO dX11_game_52 rfl rfl ?_
                refine gC_X11_48_0 hO dX11_game_53 rfl ?_
                refine aw_iload_n hO dX11_game_56 rfl rfl ?_
                refine aw_iload_n hO dX11_game_57 rfl rfl ?_
                refine aw_callVV (as := [vR 27, vI ((i : Nat) : Int), vI ((j : Nat) : Int)]) (st := []) hO dX11_game_58 rfl (lw_t5 37 rfl rfl) kX6_play (T := TX6) rfl (by decide) rfl (cJ_play h.JR (i := i) (j := j) (by omega) (by omega) (by omega)) (by decide) rfl rfl rfl (Nat.le_of_ble_eq_true rfl) (fun μ2 hq3 => ?_)
                obtain ⟨hF_μ2, hW⟩ := hq3
                refine aw_iload hO dX11_game_61 rfl rfl ?_
                refine aw_if_ne (tgt := 81) hO dX11_game_63 rfl rfl hw (fun c63 => ?_) (fun c63 => ?_)
                · refine aw_aload_n hO dX11_game_81 rfl rfl ?_
                  refine gC_X11_83_0 hO dX11_game_82 rfl ?_
                  refine aw_iload_n hO dX11_game_85 rfl rfl ?_
                  refine aw_iload hO dX11_game_86 rfl rfl ?_
                  refine aw_iload_n hO dX11_game_88 rfl rfl ?_
                  refine aw_iload hO dX11_game_89 rfl rfl ?_
                  refine aw_callVI (as := [vI ((j : Nat) : Int), vI ((y1 : Nat) : Int), vI ((x1 : Nat) : Int), vI ((y1 : Nat) : Int)]) (st := []) hO dX11_game_91 rfl (lw_t5 41 rfl rfl) kX6_gain (T := TX6) rfl (by decide) rfl ((cJ_gain hW hnp.2 (x := x1) (y := y1) (by omega) (by omega) (by omega) (by omega)).2) (by decide) rfl rfl rfl (Nat.le_of_ble_eq_true rfl) ?_
                  refine aw_iret hO dX11_game_94 ?_
                  exact ⟨_, rfl, by rw [if_pos ⟨c6, by omega, by omega, by omega⟩, show w = 1 by omega]; rfl, QF.of hF_μ2⟩
                · refine aw_aload_n hO dX11_game_66 rfl rfl ?_
                  refine gC_X11_83_0 hO dX11_game_67 rfl ?_
                  refine aw_iload_n hO dX11_game_70 rfl rfl ?_
                  refine aw_iload_n hO dX11_game_71 rfl rfl ?_
                  refine aw_iload_n hO dX11_game_72 rfl rfl ?_
                  refine aw_iload hO dX11_game_73 rfl rfl ?_
                  refine aw_callVI (as := [vI ((i : Nat) : Int), vI ((x1 : Nat) : Int), vI ((x1 : Nat) : Int), vI ((y1 : Nat) : Int)]) (st := []) hO dX11_game_75 rfl (lw_t5 41 rfl rfl) kX6_gain (T := TX6) rfl (by decide) rfl ((cJ_gain hW hnp.2 (x := x1) (y := y1) (by omega) (by omega) (by omega) (by omega)).1) (by decide) rfl rfl rfl (Nat.le_of_ble_eq_true rfl) ?_
                  refine aw_goto (tgt := 94) hO dX11_game_78 rfl ?_
                  refine aw_iret hO dX11_game_94 ?_
                  exact ⟨_, rfl, by rw [if_pos ⟨c6, by omega, by omega, by omega⟩, c63]; rfl, QF.of hF_μ2⟩
              · refine aw_ldcw (a := (-1000000)) hO dX11_game_44 rfl (lw_t4 125 rfl rfl) ?_
                refine aw_iret hO dX11_game_47 ?_
                exact ⟨_, rfl, by rw [if_neg (fun z => by have := z.2.1; have := z.2.2.1; omega)], QF.rf⟩
      · refine aw_ldcw (a := (-1000000)) hO dX11_game_20 rfl (lw_t4 125 rfl rfl) ?_
        refine aw_iret hO dX11_game_23 ?_
        exact ⟨_, rfl, by rw [if_neg (fun z => by have := z.2.2.2; omega)], QF.rf⟩
theorem dX11_shares_0 : decode cX11_shares 0 = .ok (.aload_n 0, 1) := by decide +kernel
theorem dX11_shares_1 : decode cX11_shares 1 = .ok (.getfield 41, 3) := by decide +kernel
theorem dX11_shares_4 : decode cX11_shares 4 = .ok (.iload_n 1, 1) := by decide +kernel
theorem dX11_shares_5 : decode cX11_shares 5 = .ok (.invokevirtual 164, 3) := by decide +kernel
theorem dX11_shares_8 : decode cX11_shares 8 = .ok (.ifCond .eq 14, 3) := by decide +kernel
theorem dX11_shares_11 : decode cX11_shares 11 = .ok (.iload_n 2, 1) := by decide +kernel
theorem dX11_shares_12 : decode cX11_shares 12 = .ok (.ifCond .lt 10, 3) := by decide +kernel
theorem dX11_shares_15 : decode cX11_shares 15 = .ok (.iload_n 2, 1) := by decide +kernel
theorem dX11_shares_16 : decode cX11_shares 16 = .ok (.sipush 999, 3) := by decide +kernel
theorem dX11_shares_19 : decode cX11_shares 19 = .ok (.if_icmp .le 5, 3) := by decide +kernel
theorem dX11_shares_22 : decode cX11_shares 22 = .ok (.iconst (-1), 1) := by decide +kernel
theorem dX11_shares_23 : decode cX11_shares 23 = .ok (.ireturn, 1) := by decide +kernel
theorem dX11_shares_24 : decode cX11_shares 24 = .ok (.iconst 0, 1) := by decide +kernel
theorem dX11_shares_25 : decode cX11_shares 25 = .ok (.istore_n 3, 1) := by decide +kernel
theorem dX11_shares_26 : decode cX11_shares 26 = .ok (.iconst 0, 1) := by decide +kernel
theorem dX11_shares_27 : decode cX11_shares 27 = .ok (.istore 4, 2) := by decide +kernel
theorem dX11_shares_29 : decode cX11_shares 29 = .ok (.iload 4, 2) := by decide +kernel
theorem dX11_shares_31 : decode cX11_shares 31 = .ok (.aload_n 0, 1) := by decide +kernel
theorem dX11_shares_32 : decode cX11_shares 32 = .ok (.getfield 41, 3) := by decide +kernel
theorem dX11_shares_35 : decode cX11_shares 35 = .ok (.getfield 138, 3) := by decide +kernel
theorem dX11_shares_38 : decode cX11_shares 38 = .ok (.if_icmp .ge 21, 3) := by decide +kernel
theorem dX11_shares_41 : decode cX11_shares 41 = .ok (.iload_n 3, 1) := by decide +kernel
theorem dX11_shares_42 : decode cX11_shares 42 = .ok (.aload_n 0, 1) := by decide +kernel
theorem dX11_shares_43 : decode cX11_shares 43 = .ok (.getfield 48, 3) := by decide +kernel
theorem dX11_shares_46 : decode cX11_shares 46 = .ok (.iload 4, 2) := by decide +kernel
theorem dX11_shares_48 : decode cX11_shares 48 = .ok (.invokevirtual 188, 3) := by decide +kernel
theorem dX11_shares_51 : decode cX11_shares 51 = .ok (.iadd, 1) := by decide +kernel
theorem dX11_shares_52 : decode cX11_shares 52 = .ok (.istore_n 3, 1) := by decide +kernel
theorem dX11_shares_53 : decode cX11_shares 53 = .ok (.iinc 4 1, 3) := by decide +kernel
theorem dX11_shares_56 : decode cX11_shares 56 = .ok (.goto (-27), 3) := by decide +kernel
theorem dX11_shares_59 : decode cX11_shares 59 = .ok (.iload_n 3, 1) := by decide +kernel
theorem dX11_shares_60 : decode cX11_shares 60 = .ok (.ifCond .ne 7, 3) := by decide +kernel
theorem dX11_shares_63 : decode cX11_shares 63 = .ok (.iconst 0, 1) := by decide +kernel
theorem dX11_shares_64 : decode cX11_shares 64 = .ok (.goto 15, 3) := by decide +kernel
theorem dX11_shares_67 : decode cX11_shares 67 = .ok (.iload_n 2, 1) := by decide +kernel
theorem dX11_shares_68 : decode cX11_shares 68 = .ok (.aload_n 0, 1) := by decide +kernel
theorem dX11_shares_69 : decode cX11_shares 69 = .ok (.getfield 48, 3) := by decide +kernel
theorem dX11_shares_72 : decode cX11_shares 72 = .ok (.iload_n 1, 1) := by decide +kernel
theorem dX11_shares_73 : decode cX11_shares 73 = .ok (.invokevirtual 188, 3) := by decide +kernel
theorem dX11_shares_76 : decode cX11_shares 76 = .ok (.imul, 1) := by decide +kernel
theorem dX11_shares_77 : decode cX11_shares 77 = .ok (.iload_n 3, 1) := by decide +kernel
theorem dX11_shares_78 : decode cX11_shares 78 = .ok (.idiv, 1) := by decide +kernel
theorem dX11_shares_79 : decode cX11_shares 79 = .ok (.ireturn, 1) := by decide +kernel
set_option maxHeartbeats 4000000 in
set_option maxRecDepth 100000 in
theorem cP_shares {μ ν : Mm} (h : Rel μ ν) {v u : Int} (hv : InR v) (hu : InR u) : CtI PC 1 yX11_shares cX11_shares 5 (some .int) [vR 0, vI v, vI u] μ (if (0 ≤ v ∧ v < ν.1 0 25) ∧ (0 ≤ u ∧ u ≤ 999) then (if sumF (fun p => ν.1 17 (18 + p)) (ν.1 0 25).toNat = 0 then 0 else u * ν.1 17 (18 + v.toNat) / sumF (fun p => ν.1 17 (18 + p)) (ν.1 0 25).toNat) else -1) := by
  refine ct_intro [some (vR 0), some (vI v), some (vI u), none, none] RX11 (by decide) rfl XCo rfl (Nat.le_of_ble_eq_true rfl) (fun K hO => ?_)
  obtain ⟨c, hc, hlc1, hlc2, hl3, hl4, hl5⟩ := h.L
  obtain ⟨N, hN, hN1, hN2, hN3⟩ := h.P
  obtain ⟨a, x, ha, hx, ha1, ha2, ha3, ha4⟩ := h.A
  have hnp := h.B.np
  have hnt := h.B.nt
  have hr := h.B.now.rest
  have hN15 := h.N.2.1
  have hsr := sumF_rng (f := (fun p => ν.1 17 (18 + p))) (fun p hp => h.B.now.cha (j := 18 + p) (by omega) (by omega))
  have body : ∀ p : Nat, v = (p : Int) → (p : Int) < ν.1 0 25 → (0 ≤ u ∧ u ≤ 999) → AW K 29 [some (vR 0), some (vI ((p : Nat) : Int)), some (vI u), some (vI 0), some (vI ((0 : Nat) : Int))] [] μ := by
    intro p hvp hp hw
    subst hvp
    have hcv := h.B.now.cha (j := 18 + p) (by omega) (by omega)
    have hml : 0 ≤ u * ν.1 17 (18 + p) ∧ u * ν.1 17 (18 + p) ≤ 999 * 99 := ⟨Int.mul_nonneg (by omega) (by omega), Int.mul_le_mul (by omega) (by omega) (by omega) (by omega)⟩
    have lp : ∀ (c : Nat) (o : Nat) (s : Int), ((o : Int) + c = ν.1 0 25) → (s = sumF (fun p => ν.1 17 (18 + p)) o) → AW K 29 [some (vR 0), some (vI ((p : Nat) : Int)), some (vI u), some (vI s), some (vI ((o : Nat) : Int))] [] μ := by
      intro c
      induction c with
      | zero =>
        intro o s ho hs
        have hso := hsr o (by omega)
        rw [← hs] at hso
        refine aw_iload hO dX11_shares_29 rfl rfl ?_
        refine aw_aload_n hO dX11_shares_31 rfl rfl ?_
        refine gC_X11_41_0 hO dX11_shares_32 rfl ?_
        refine gC_X11_138_25 hO dX11_shares_35 rfl ?_
        refine aw_cg h.JR.z.T.n ?_
        refine aw_icmp_ge (tgt := 59) hO dX11_shares_38 rfl rfl (inRn (by omega)) ⟨by omega, by omega⟩ (fun c38 => ?_) (fun c38 => ?_)
        · refine aw_iload_n hO dX11_shares_59 rfl rfl ?_
          refine aw_if_ne (tgt := 67) hO dX11_shares_60 rfl rfl ⟨by omega, by omega⟩ (fun c60 => ?_) (fun c60 => ?_)
          · refine aw_iload_n hO dX11_shares_67 rfl rfl ?_
            refine aw_aload_n hO dX11_shares_68 rfl rfl ?_
            refine gC_X11_48_0 hO dX11_shares_69 rfl ?_
            refine aw_iload_n hO dX11_shares_72 rfl rfl ?_
            refine aw_callVI (as := [vI ((p : Nat) : Int)]) (st := [vI u]) hO dX11_shares_73 rfl (lw_t5 88 rfl rfl) kX7_chains (T := TX7) rfl (by decide) rfl (cJ_chains h.JR.ob h.JR.S (p := p) (by omega)) (by decide) rfl rfl rfl (Nat.le_of_ble_eq_true rfl) ?_
            refine aw_imul hO dX11_shares_76 rfl ?_
            refine aw_iload_n hO dX11_shares_77 rfl rfl ?_
            refine aw_idiv hO dX11_shares_78 rfl (by omega) (by omega) (by omega) (by omega) ?_
            refine aw_iret hO dX11_shares_79 ?_
            exact rI (by rw [if_pos ⟨by omega, hw⟩, show (ν.1 0 25).toNat = o by omega, ← hs, if_neg c60, Int.toNat_natCast])
          · refine aw_iconst hO dX11_shares_63 rfl ?_
            refine aw_goto (tgt := 79) hO dX11_shares_64 rfl ?_
            refine aw_iret hO dX11_shares_79 ?_
            exact rI (by rw [if_pos ⟨by omega, hw⟩, show (ν.1 0 25).toNat = o by omega, ← hs, if_pos c60])
        · exact absurd c38 (by omega)
      | succ c ih =>
        intro o s ho hs
        have hso := hsr o (by omega)
        rw [← hs] at hso
        refine aw_iload hO dX11_shares_29 rfl rfl ?_
        refine aw_aload_n hO dX11_shares_31 rfl rfl ?_
        refine gC_X11_41_0 hO dX11_shares_32 rfl ?_
        refine gC_X11_138_25 hO dX11_shares_35 rfl ?_
        refine aw_cg h.JR.z.T.n ?_
        refine aw_icmp_ge (tgt := 59) hO dX11_shares_38 rfl rfl (inRn (by omega)) ⟨by omega, by omega⟩ (fun c38 => ?_) (fun c38 => ?_)
        · exact absurd c38 (by omega)
        · refine aw_iload_n hO dX11_shares_41 rfl rfl ?_
          refine aw_aload_n hO dX11_shares_42 rfl rfl ?_
          refine gC_X11_48_0 hO dX11_shares_43 rfl ?_
          refine aw_iload hO dX11_shares_46 rfl rfl ?_
          refine aw_callVI (as := [vI ((o : Nat) : Int)]) (st := [vI s]) hO dX11_shares_48 rfl (lw_t5 88 rfl rfl) kX7_chains (T := TX7) rfl (by decide) rfl (cJ_chains h.JR.ob h.JR.S (p := o) (by omega)) (by decide) rfl rfl rfl (Nat.le_of_ble_eq_true rfl) ?_
          refine aw_iadd hO dX11_shares_51 rfl ?_
          refine aw_istore_n (ls' := [some (vR 0), some (vI ((p : Nat) : Int)), some (vI u), some (vI (s + (ν.1 17 (18 + o)))), some (vI ((o : Nat) : Int))]) hO dX11_shares_52 rfl (Nat.le_of_ble_eq_true rfl) rfl rfl ?_
          refine aw_iinc (ls' := [some (vR 0), some (vI ((p : Nat) : Int)), some (vI u), some (vI (s + (ν.1 17 (18 + o)))), some (vI (((o : Nat) : Int) + 1))]) hO dX11_shares_53 rfl rfl rfl rfl ?_
          refine aw_lsq (ls' := [some (vR 0), some (vI ((p : Nat) : Int)), some (vI u), some (vI (s + (ν.1 17 (18 + o)))), some (vI (((o + 1) : Nat) : Int))]) rfl ?_
          refine aw_goto (tgt := 29) hO dX11_shares_56 rfl ?_
          refine aw_lsq (ls' := [some (vR 0), some (vI ((p : Nat) : Int)), some (vI u), some (vI (s + (ν.1 17 (18 + o)))), some (vI (((o + 1) : Nat) : Int))]) rfl ?_
          exact ih (o + 1) _ (by omega) (by rw [sumF, ← hs])
    exact lp (ν.1 0 25).toNat 0 0 (by omega) rfl
  refine aw_aload_n hO dX11_shares_0 rfl rfl ?_
  refine gC_X11_41_0 hO dX11_shares_1 rfl ?_
  refine aw_iload_n hO dX11_shares_4 rfl rfl ?_
  refine aw_callVI (as := [vI v]) (st := []) hO dX11_shares_5 rfl (lw_t3 170 rfl rfl) kX9_hasPerson (T := TX9) rfl (by decide) rfl (cJ_hasPerson h.JR.z hv) (by decide) rfl rfl rfl (Nat.le_of_ble_eq_true rfl) ?_
  refine aw_ifz_eq (tgt := 22) hO dX11_shares_8 rfl rfl (fun c8 => ?_) (fun c8 => ?_)
  · refine aw_iconst hO dX11_shares_22 rfl ?_
    refine aw_iret hO dX11_shares_23 ?_
    exact rI (by rw [if_neg (fun z => c8 z.1)])
  · obtain ⟨p, hpe⟩ := Int.eq_ofNat_of_zero_le c8.1
    subst hpe
    refine aw_iload_n hO dX11_shares_11 rfl rfl ?_
    refine aw_if_lt (tgt := 22) hO dX11_shares_12 rfl rfl hu (fun c12 => ?_) (fun c12 => ?_)
    · refine aw_iconst hO dX11_shares_22 rfl ?_
      refine aw_iret hO dX11_shares_23 ?_
      exact rI (by rw [if_neg (fun z => by have := z.2; omega)])
    · refine aw_iload_n hO dX11_shares_15 rfl rfl ?_
      refine aw_sipush hO dX11_shares_16 rfl (by decide) (by decide) ?_
      refine aw_icmp_le (tgt := 24) hO dX11_shares_19 rfl rfl hu (inRlit _) (fun c19 => ?_) (fun c19 => ?_)
      · refine aw_iconst hO dX11_shares_24 rfl ?_
        refine aw_istore_n (ls' := [some (vR 0), some (vI ((p : Nat) : Int)), some (vI u), some (vI 0), none]) hO dX11_shares_25 rfl (Nat.le_of_ble_eq_true rfl) rfl rfl ?_
        refine aw_iconst hO dX11_shares_26 rfl ?_
        refine aw_istore (ls' := [some (vR 0), some (vI ((p : Nat) : Int)), some (vI u), some (vI 0), some (vI 0)]) hO dX11_shares_27 rfl (Nat.le_of_ble_eq_true rfl) rfl rfl ?_
        refine aw_lsq (ls' := [some (vR 0), some (vI ((p : Nat) : Int)), some (vI u), some (vI 0), some (vI ((0 : Nat) : Int))]) rfl ?_
        exact body p rfl c8.2 ⟨c12, c19⟩
      · refine aw_iconst hO dX11_shares_22 rfl ?_
        refine aw_iret hO dX11_shares_23 ?_
        exact rI (by rw [if_neg (fun z => by have := z.2; omega)])
theorem dX11_rests_0 : decode cX11_rests 0 = .ok (.aload_n 0, 1) := by decide +kernel
theorem dX11_rests_1 : decode cX11_rests 1 = .ok (.iload_n 1, 1) := by decide +kernel
theorem dX11_rests_2 : decode cX11_rests 2 = .ok (.iload_n 2, 1) := by decide +kernel
theorem dX11_rests_3 : decode cX11_rests 3 = .ok (.invokevirtual 321, 3) := by decide +kernel
theorem dX11_rests_6 : decode cX11_rests 6 = .ok (.ifCond .eq 8, 3) := by decide +kernel
theorem dX11_rests_9 : decode cX11_rests 9 = .ok (.iload_n 3, 1) := by decide +kernel
theorem dX11_rests_10 : decode cX11_rests 10 = .ok (.iconst (-1), 1) := by decide +kernel
theorem dX11_rests_11 : decode cX11_rests 11 = .ok (.if_icmp .ge 5, 3) := by decide +kernel
theorem dX11_rests_14 : decode cX11_rests 14 = .ok (.iconst (-1), 1) := by decide +kernel
theorem dX11_rests_15 : decode cX11_rests 15 = .ok (.ireturn, 1) := by decide +kernel
theorem dX11_rests_16 : decode cX11_rests 16 = .ok (.aload_n 0, 1) := by decide +kernel
theorem dX11_rests_17 : decode cX11_rests 17 = .ok (.getfield 83, 3) := by decide +kernel
theorem dX11_rests_20 : decode cX11_rests 20 = .ok (.aload_n 0, 1) := by decide +kernel
theorem dX11_rests_21 : decode cX11_rests 21 = .ok (.getfield 48, 3) := by decide +kernel
theorem dX11_rests_24 : decode cX11_rests 24 = .ok (.iload_n 1, 1) := by decide +kernel
theorem dX11_rests_25 : decode cX11_rests 25 = .ok (.iload_n 2, 1) := by decide +kernel
theorem dX11_rests_26 : decode cX11_rests 26 = .ok (.invokevirtual 324, 3) := by decide +kernel
theorem dX11_rests_29 : decode cX11_rests 29 = .ok (.iconst 0, 1) := by decide +kernel
theorem dX11_rests_30 : decode cX11_rests 30 = .ok (.istore 4, 2) := by decide +kernel
theorem dX11_rests_32 : decode cX11_rests 32 = .ok (.iconst 0, 1) := by decide +kernel
theorem dX11_rests_33 : decode cX11_rests 33 = .ok (.istore 5, 2) := by decide +kernel
theorem dX11_rests_35 : decode cX11_rests 35 = .ok (.iload 5, 2) := by decide +kernel
theorem dX11_rests_37 : decode cX11_rests 37 = .ok (.iconst 3, 1) := by decide +kernel
theorem dX11_rests_38 : decode cX11_rests 38 = .ok (.if_icmp .gt 58, 3) := by decide +kernel
theorem dX11_rests_41 : decode cX11_rests 41 = .ok (.iconst 0, 1) := by decide +kernel
theorem dX11_rests_42 : decode cX11_rests 42 = .ok (.istore 6, 2) := by decide +kernel
theorem dX11_rests_44 : decode cX11_rests 44 = .ok (.iload 6, 2) := by decide +kernel
theorem dX11_rests_46 : decode cX11_rests 46 = .ok (.iconst 3, 1) := by decide +kernel
theorem dX11_rests_47 : decode cX11_rests 47 = .ok (.if_icmp .gt 43, 3) := by decide +kernel
theorem dX11_rests_50 : decode cX11_rests 50 = .ok (.aload_n 0, 1) := by decide +kernel
theorem dX11_rests_51 : decode cX11_rests 51 = .ok (.getfield 83, 3) := by decide +kernel
theorem dX11_rests_54 : decode cX11_rests 54 = .ok (.iload_n 1, 1) := by decide +kernel
theorem dX11_rests_55 : decode cX11_rests 55 = .ok (.iload_n 2, 1) := by decide +kernel
theorem dX11_rests_56 : decode cX11_rests 56 = .ok (.iload 5, 2) := by decide +kernel
theorem dX11_rests_58 : decode cX11_rests 58 = .ok (.iload 6, 2) := by decide +kernel
theorem dX11_rests_60 : decode cX11_rests 60 = .ok (.invokevirtual 332, 3) := by decide +kernel
theorem dX11_rests_63 : decode cX11_rests 63 = .ok (.ifCond .eq 21, 3) := by decide +kernel
theorem dX11_rests_66 : decode cX11_rests 66 = .ok (.iload 4, 2) := by decide +kernel
theorem dX11_rests_68 : decode cX11_rests 68 = .ok (.iload_n 3, 1) := by decide +kernel
theorem dX11_rests_69 : decode cX11_rests 69 = .ok (.if_icmp .ne 12, 3) := by decide +kernel
theorem dX11_rests_72 : decode cX11_rests 72 = .ok (.bipush 10, 2) := by decide +kernel
theorem dX11_rests_74 : decode cX11_rests 74 = .ok (.iload 5, 2) := by decide +kernel
theorem dX11_rests_76 : decode cX11_rests 76 = .ok (.imul, 1) := by decide +kernel
theorem dX11_rests_77 : decode cX11_rests 77 = .ok (.iload 6, 2) := by decide +kernel
theorem dX11_rests_79 : decode cX11_rests 79 = .ok (.iadd, 1) := by decide +kernel
theorem dX11_rests_80 : decode cX11_rests 80 = .ok (.ireturn, 1) := by decide +kernel
theorem dX11_rests_81 : decode cX11_rests 81 = .ok (.iinc 4 1, 3) := by decide +kernel
theorem dX11_rests_84 : decode cX11_rests 84 = .ok (.iinc 6 1, 3) := by decide +kernel
theorem dX11_rests_87 : decode cX11_rests 87 = .ok (.goto (-43), 3) := by decide +kernel
theorem dX11_rests_90 : decode cX11_rests 90 = .ok (.iinc 5 1, 3) := by decide +kernel
theorem dX11_rests_93 : decode cX11_rests 93 = .ok (.goto (-58), 3) := by decide +kernel
theorem dX11_rests_96 : decode cX11_rests 96 = .ok (.iload_n 3, 1) := by decide +kernel
theorem dX11_rests_97 : decode cX11_rests 97 = .ok (.iconst (-1), 1) := by decide +kernel
theorem dX11_rests_98 : decode cX11_rests 98 = .ok (.if_icmp .ne 8, 3) := by decide +kernel
theorem dX11_rests_101 : decode cX11_rests 101 = .ok (.iload 4, 2) := by decide +kernel
theorem dX11_rests_103 : decode cX11_rests 103 = .ok (.goto 4, 3) := by decide +kernel
theorem dX11_rests_106 : decode cX11_rests 106 = .ok (.iconst (-1), 1) := by decide +kernel
theorem dX11_rests_107 : decode cX11_rests 107 = .ok (.ireturn, 1) := by decide +kernel
set_option maxHeartbeats 4000000 in
set_option maxRecDepth 100000 in
theorem cP_rests {μ ν : Mm} (h : Rel μ ν) {v u w : Int} (hv : InR v) (hu : InR u) (hw : InR w) [Decidable (twoP ν v u)] : CtE PC 5 yX11_rests cX11_rests 7 (some .int) [vR 0, vI v, vI u, vI w] μ (fun r m => r = (if twoP ν v u ∧ -1 ≤ w then selG (rstP ν v.toNat u.toNat) cd4 w 16 else -1) ∧ QF μ m) := by
  refine ct_intro [some (vR 0), some (vI v), some (vI u), some (vI w), none, none, none] RX11 (by decide) rfl XCo rfl (Nat.le_of_ble_eq_true rfl) (fun K hO => ?_)
  obtain ⟨c, hc, hlc1, hlc2, hl3, hl4, hl5⟩ := h.L
  obtain ⟨N, hN, hN1, hN2, hN3⟩ := h.P
  obtain ⟨a, x, ha, hx, ha1, ha2, ha3, ha4⟩ := h.A
  have hnp := h.B.np
  have hnt := h.B.nt
  have hr := h.B.now.rest
  have hN15 := h.N.2.1
  have body : ∀ (i j : Nat) (m : Mm), v = (i : Int) → u = (j : Int) → (i : Int) < ν.1 0 25 → (j : Int) < ν.1 0 25 → twoP ν v u → -1 ≤ w → Fr qS μ m → WN ν i j m → ∀ (c0 x y f : Nat), 4 * x + y + (c0 + 1) = 16 → y < 4 → f = cntB (rstP ν i j) (4 * x + y) → fndG (rstP ν i j) cd4 w (4 * x + y) = none → AW K 44 [some (vR 0), some (vI ((i : Nat) : Int)), some (vI ((j : Nat) : Int)), some (vI w), some (vI ((f : Nat) : Int)), some (vI ((x : Nat) : Int)), some (vI ((y : Nat) : Int))] [] m := by
    intro i j m hvi huj hi hj h2 hw1 hF hW c0
    subst hvi huj
    induction c0 with
    | zero =>
      intro x y f hxy hy4 hf hnone
      have hfl := cntB_le (rstP ν i j) (4 * x + y)
      have hrP : rstP ν i j (4 * x + y) = rstB ν i j ((x : Nat) : Int) ((y : Nat) : Int) := by unfold rstP; rw [show (4 * x + y) / 4 = x by omega, show (4 * x + y) % 4 = y by omega]
      have hcd : cd4 (4 * x + y) = 10 * ((x : Nat) : Int) + ((y : Nat) : Int) := by unfold cd4; rw [show (4 * x + y) / 4 = x by omega, show (4 * x + y) % 4 = y by omega]
      refine aw_iload hO dX11_rests_44 rfl rfl ?_
      refine aw_iconst hO dX11_rests_46 rfl ?_
      refine aw_icmp_gt (tgt := 90) hO dX11_rests_47 rfl rfl (inRn (by omega)) (inRlit _) (fun c47 => ?_) (fun c47 => ?_)
      · exact absurd c47 (by omega)
      · refine aw_aload_n hO dX11_rests_50 rfl rfl ?_
        refine gC_X11_83_0 hO dX11_rests_51 rfl ?_
        refine aw_iload_n hO dX11_rests_54 rfl rfl ?_
        refine aw_iload_n hO dX11_rests_55 rfl rfl ?_
        refine aw_iload hO dX11_rests_56 rfl rfl ?_
        refine aw_iload hO dX11_rests_58 rfl rfl ?_
        refine aw_callVI (as := [vI ((i : Nat) : Int), vI ((j : Nat) : Int), vI ((x : Nat) : Int), vI ((y : Nat) : Int)]) (st := []) hO dX11_rests_60 rfl (lw_t5 49 rfl rfl) kX6_isRest (T := TX6) rfl (by decide) rfl (cJ_isRest hW hnp.2 (i := i) (j := j) (x := x) (y := y) (by omega) (by omega) (by omega) hy4) (by decide) rfl rfl rfl (Nat.le_of_ble_eq_true rfl) ?_
        refine aw_ifz_eq (tgt := 84) hO dX11_rests_63 rfl rfl (fun c63 => ?_) (fun c63 => ?_)
        · have hc1 : cntB (rstP ν i j) (4 * x + y + 1) = f := by rw [cntB_f (by rw [hrP]; exact c63), hf]
          have hn1 : fndG (rstP ν i j) cd4 w (4 * x + y + 1) = none := fndG_n1 hnone (by rw [hrP]; exact c63)
          refine aw_iinc (ls' := [some (vR 0), some (vI ((i : Nat) : Int)), some (vI ((j : Nat) : Int)), some (vI w), some (vI ((f : Nat) : Int)), some (vI ((x : Nat) : Int)), some (vI (((y : Nat) : Int) + 1))]) hO dX11_rests_84 rfl rfl rfl rfl ?_
          refine aw_lsq (ls' := [some (vR 0), some (vI ((i : Nat) : Int)), some (vI ((j : Nat) : Int)), some (vI w), some (vI ((f : Nat) : Int)), some (vI ((x : Nat) : Int)), some (vI (((y + 1) : Nat) : Int))]) rfl ?_
          refine aw_goto (tgt := 44) hO dX11_rests_87 rfl ?_
          have hy5 : y = 3 := by omega
          refine aw_lsq (ls' := [some (vR 0), some (vI ((i : Nat) : Int)), some (vI ((j : Nat) : Int)), some (vI w), some (vI ((f : Nat) : Int)), some (vI ((x : Nat) : Int)), some (vI (((y + 1) : Nat) : Int))]) rfl ?_
          refine aw_iload hO dX11_rests_44 rfl rfl ?_
          refine aw_iconst hO dX11_rests_46 rfl ?_
          refine aw_icmp_gt (tgt := 90) hO dX11_rests_47 rfl rfl (inRn (by omega)) (inRlit _) (fun c47 => ?_) (fun c47 => ?_)
          · refine aw_iinc (ls' := [some (vR 0), some (vI ((i : Nat) : Int)), some (vI ((j : Nat) : Int)), some (vI w), some (vI ((f : Nat) : Int)), some (vI (((x : Nat) : Int) + 1)), some (vI (((y + 1) : Nat) : Int))]) hO dX11_rests_90 rfl rfl rfl rfl ?_
            refine aw_lsq (ls' := [some (vR 0), some (vI ((i : Nat) : Int)), some (vI ((j : Nat) : Int)), some (vI w), some (vI ((f : Nat) : Int)), some (vI (((x + 1) : Nat) : Int)), some (vI (((y + 1) : Nat) : Int))]) rfl ?_
            refine aw_goto (tgt := 35) hO dX11_rests_93 rfl ?_
            refine aw_iload hO dX11_rests_35 rfl rfl ?_
            refine aw_iconst hO dX11_rests_37 rfl ?_
            refine aw_icmp_gt (tgt := 96) hO dX11_rests_38 rfl rfl (inRn (by omega)) (inRlit _) (fun c38 => ?_) (fun c38 => ?_)
            · refine aw_iload_n hO dX11_rests_96 rfl rfl ?_
              refine aw_iconst hO dX11_rests_97 rfl ?_
              refine aw_icmp_ne (tgt := 106) hO dX11_rests_98 rfl rfl hw (inRlit _) (fun c98 => ?_) (fun c98 => ?_)
              · refine aw_iconst hO dX11_rests_106 rfl ?_
                refine aw_iret hO dX11_rests_107 ?_
                have h16 : 4 * x + y + 1 = 16 := by omega
                rw [h16] at hc1 hn1
                exact ⟨_, rfl, by rw [if_pos ⟨h2, hw1⟩]; rw [Int.toNat_natCast, Int.toNat_natCast]; unfold selG; rw [hn1, hc1, if_neg c98]; rfl, QF.of hF⟩
              · refine aw_iload hO dX11_rests_101 rfl rfl ?_
                refine aw_goto (tgt := 107) hO dX11_rests_103 rfl ?_
                refine aw_iret hO dX11_rests_107 ?_
                have h16 : 4 * x + y + 1 = 16 := by omega
                rw [h16] at hc1 hn1
                exact ⟨_, rfl, by rw [if_pos ⟨h2, hw1⟩]; rw [Int.toNat_natCast, Int.toNat_natCast]; unfold selG; rw [hn1, hc1, if_pos c98]; rfl, QF.of hF⟩
            · exact absurd c38 (by omega)
          · exact absurd c47 (by omega)
        · refine aw_iload hO dX11_rests_66 rfl rfl ?_
          refine aw_iload_n hO dX11_rests_68 rfl rfl ?_
          refine aw_icmp_ne (tgt := 81) hO dX11_rests_69 rfl rfl (inRn (by omega)) hw (fun c69 => ?_) (fun c69 => ?_)
          · have hc1 : cntB (rstP ν i j) (4 * x + y + 1) = f + 1 := by rw [cntB_t (by rw [hrP]; exact c63), hf]
            have hn1 : fndG (rstP ν i j) cd4 w (4 * x + y + 1) = none := fndG_n2 hnone (by rw [← hf]; exact c69)
            refine aw_iinc (ls' := [some (vR 0), some (vI ((i : Nat) : Int)), some (vI ((j : Nat) : Int)), some (vI w), some (vI (((f : Nat) : Int) + 1)), some (vI ((x : Nat) : Int)), some (vI ((y : Nat) : Int))]) hO dX11_rests_81 rfl rfl rfl rfl ?_
            refine aw_lsq (ls' := [some (vR 0), some (vI ((i : Nat) : Int)), some (vI ((j : Nat) : Int)), some (vI w), some (vI (((f + 1) : Nat) : Int)), some (vI ((x : Nat) : Int)), some (vI ((y : Nat) : Int))]) rfl ?_
            refine aw_iinc (ls' := [some (vR 0), some (vI ((i : Nat) : Int)), some (vI ((j : Nat) : Int)), some (vI w), some (vI (((f + 1) : Nat) : Int)), some (vI ((x : Nat) : Int)), some (vI (((y : Nat) : Int) + 1))]) hO dX11_rests_84 rfl rfl rfl rfl ?_
            refine aw_lsq (ls' := [some (vR 0), some (vI ((i : Nat) : Int)), some (vI ((j : Nat) : Int)), some (vI w), some (vI (((f + 1) : Nat) : Int)), some (vI ((x : Nat) : Int)), some (vI (((y + 1) : Nat) : Int))]) rfl ?_
            refine aw_goto (tgt := 44) hO dX11_rests_87 rfl ?_
            have hy5 : y = 3 := by omega
            refine aw_lsq (ls' := [some (vR 0), some (vI ((i : Nat) : Int)), some (vI ((j : Nat) : Int)), some (vI w), some (vI (((f + 1) : Nat) : Int)), some (vI ((x : Nat) : Int)), some (vI (((y + 1) : Nat) : Int))]) rfl ?_
            refine aw_iload hO dX11_rests_44 rfl rfl ?_
            refine aw_iconst hO dX11_rests_46 rfl ?_
            refine aw_icmp_gt (tgt := 90) hO dX11_rests_47 rfl rfl (inRn (by omega)) (inRlit _) (fun c47 => ?_) (fun c47 => ?_)
            · refine aw_iinc (ls' := [some (vR 0), some (vI ((i : Nat) : Int)), some (vI ((j : Nat) : Int)), some (vI w), some (vI (((f + 1) : Nat) : Int)), some (vI (((x : Nat) : Int) + 1)), some (vI (((y + 1) : Nat) : Int))]) hO dX11_rests_90 rfl rfl rfl rfl ?_
              refine aw_lsq (ls' := [some (vR 0), some (vI ((i : Nat) : Int)), some (vI ((j : Nat) : Int)), some (vI w), some (vI (((f + 1) : Nat) : Int)), some (vI (((x + 1) : Nat) : Int)), some (vI (((y + 1) : Nat) : Int))]) rfl ?_
              refine aw_goto (tgt := 35) hO dX11_rests_93 rfl ?_
              refine aw_iload hO dX11_rests_35 rfl rfl ?_
              refine aw_iconst hO dX11_rests_37 rfl ?_
              refine aw_icmp_gt (tgt := 96) hO dX11_rests_38 rfl rfl (inRn (by omega)) (inRlit _) (fun c38 => ?_) (fun c38 => ?_)
              · refine aw_iload_n hO dX11_rests_96 rfl rfl ?_
                refine aw_iconst hO dX11_rests_97 rfl ?_
                refine aw_icmp_ne (tgt := 106) hO dX11_rests_98 rfl rfl hw (inRlit _) (fun c98 => ?_) (fun c98 => ?_)
                · refine aw_iconst hO dX11_rests_106 rfl ?_
                  refine aw_iret hO dX11_rests_107 ?_
                  have h16 : 4 * x + y + 1 = 16 := by omega
                  rw [h16] at hc1 hn1
                  exact ⟨_, rfl, by rw [if_pos ⟨h2, hw1⟩]; rw [Int.toNat_natCast, Int.toNat_natCast]; unfold selG; rw [hn1, hc1, if_neg c98]; rfl, QF.of hF⟩
                · refine aw_iload hO dX11_rests_101 rfl rfl ?_
                  refine aw_goto (tgt := 107) hO dX11_rests_103 rfl ?_
                  refine aw_iret hO dX11_rests_107 ?_
                  have h16 : 4 * x + y + 1 = 16 := by omega
                  rw [h16] at hc1 hn1
                  exact ⟨_, rfl, by rw [if_pos ⟨h2, hw1⟩]; rw [Int.toNat_natCast, Int.toNat_natCast]; unfold selG; rw [hn1, hc1, if_pos c98]; rfl, QF.of hF⟩
              · exact absurd c38 (by omega)
            · exact absurd c47 (by omega)
          · refine aw_bipush hO dX11_rests_72 rfl (by decide) (by decide) ?_
            refine aw_iload hO dX11_rests_74 rfl rfl ?_
            refine aw_imul hO dX11_rests_76 rfl ?_
            refine aw_iload hO dX11_rests_77 rfl rfl ?_
            refine aw_iadd hO dX11_rests_79 rfl ?_
            refine aw_iret hO dX11_rests_80 ?_
            exact ⟨_, rfl, by rw [if_pos ⟨h2, hw1⟩]; exact ((selG_hit hnone (by rw [hrP]; exact c63) (by rw [← hf]; exact c69) (by omega)).trans hcd).symm, QF.of hF⟩
    | succ c0 ih =>
      intro x y f hxy hy4 hf hnone
      have hfl := cntB_le (rstP ν i j) (4 * x + y)
      have hrP : rstP ν i j (4 * x + y) = rstB ν i j ((x : Nat) : Int) ((y : Nat) : Int) := by unfold rstP; rw [show (4 * x + y) / 4 = x by omega, show (4 * x + y) % 4 = y by omega]
      have hcd : cd4 (4 * x + y) = 10 * ((x : Nat) : Int) + ((y : Nat) : Int) := by unfold cd4; rw [show (4 * x + y) / 4 = x by omega, show (4 * x + y) % 4 = y by omega]
      refine aw_iload hO dX11_rests_44 rfl rfl ?_
      refine aw_iconst hO dX11_rests_46 rfl ?_
      refine aw_icmp_gt (tgt := 90) hO dX11_rests_47 rfl rfl (inRn (by omega)) (inRlit _) (fun c47 => ?_) (fun c47 => ?_)
      · exact absurd c47 (by omega)
      · refine aw_aload_n hO dX11_rests_50 rfl rfl ?_
        refine gC_X11_83_0 hO dX11_rests_51 rfl ?_
        refine aw_iload_n hO dX11_rests_54 rfl rfl ?_
        refine aw_iload_n hO dX11_rests_55 rfl rfl ?_
        refine aw_iload hO dX11_rests_56 rfl rfl ?_
        refine aw_iload hO dX11_rests_58 rfl rfl ?_
        refine aw_callVI (as := [vI ((i : Nat) : Int), vI ((j : Nat) : Int), vI ((x : Nat) : Int), vI ((y : Nat) : Int)]) (st := []) hO dX11_rests_60 rfl (lw_t5 49 rfl rfl) kX6_isRest (T := TX6) rfl (by decide) rfl (cJ_isRest hW hnp.2 (i := i) (j := j) (x := x) (y := y) (by omega) (by omega) (by omega) hy4) (by decide) rfl rfl rfl (Nat.le_of_ble_eq_true rfl) ?_
        refine aw_ifz_eq (tgt := 84) hO dX11_rests_63 rfl rfl (fun c63 => ?_) (fun c63 => ?_)
        · have hc1 : cntB (rstP ν i j) (4 * x + y + 1) = f := by rw [cntB_f (by rw [hrP]; exact c63), hf]
          have hn1 : fndG (rstP ν i j) cd4 w (4 * x + y + 1) = none := fndG_n1 hnone (by rw [hrP]; exact c63)
          refine aw_iinc (ls' := [some (vR 0), some (vI ((i : Nat) : Int)), some (vI ((j : Nat) : Int)), some (vI w), some (vI ((f : Nat) : Int)), some (vI ((x : Nat) : Int)), some (vI (((y : Nat) : Int) + 1))]) hO dX11_rests_84 rfl rfl rfl rfl ?_
          refine aw_lsq (ls' := [some (vR 0), some (vI ((i : Nat) : Int)), some (vI ((j : Nat) : Int)), some (vI w), some (vI ((f : Nat) : Int)), some (vI ((x : Nat) : Int)), some (vI (((y + 1) : Nat) : Int))]) rfl ?_
          refine aw_goto (tgt := 44) hO dX11_rests_87 rfl ?_
          by_cases hy3 : y + 1 < 4
          · refine aw_lsq (ls' := [some (vR 0), some (vI ((i : Nat) : Int)), some (vI ((j : Nat) : Int)), some (vI w), some (vI ((f : Nat) : Int)), some (vI ((x : Nat) : Int)), some (vI ((y + 1 : Nat) : Int))]) rfl ?_
            exact ih x (y + 1) (f) (by omega) hy3 (by rw [← Nat.add_assoc]; exact hc1.symm) (by rw [← Nat.add_assoc]; exact hn1)
          · have hy5 : y = 3 := by omega
            refine aw_lsq (ls' := [some (vR 0), some (vI ((i : Nat) : Int)), some (vI ((j : Nat) : Int)), some (vI w), some (vI ((f : Nat) : Int)), some (vI ((x : Nat) : Int)), some (vI (((y + 1) : Nat) : Int))]) rfl ?_
            refine aw_iload hO dX11_rests_44 rfl rfl ?_
            refine aw_iconst hO dX11_rests_46 rfl ?_
            refine aw_icmp_gt (tgt := 90) hO dX11_rests_47 rfl rfl (inRn (by omega)) (inRlit _) (fun c47 => ?_) (fun c47 => ?_)
            · refine aw_iinc (ls' := [some (vR 0), some (vI ((i : Nat) : Int)), some (vI ((j : Nat) : Int)), some (vI w), some (vI ((f : Nat) : Int)), some (vI (((x : Nat) : Int) + 1)), some (vI (((y + 1) : Nat) : Int))]) hO dX11_rests_90 rfl rfl rfl rfl ?_
              refine aw_lsq (ls' := [some (vR 0), some (vI ((i : Nat) : Int)), some (vI ((j : Nat) : Int)), some (vI w), some (vI ((f : Nat) : Int)), some (vI (((x + 1) : Nat) : Int)), some (vI (((y + 1) : Nat) : Int))]) rfl ?_
              refine aw_goto (tgt := 35) hO dX11_rests_93 rfl ?_
              refine aw_iload hO dX11_rests_35 rfl rfl ?_
              refine aw_iconst hO dX11_rests_37 rfl ?_
              refine aw_icmp_gt (tgt := 96) hO dX11_rests_38 rfl rfl (inRn (by omega)) (inRlit _) (fun c38 => ?_) (fun c38 => ?_)
              · exact absurd c38 (by omega)
              · refine aw_iconst hO dX11_rests_41 rfl ?_
                refine aw_istore (ls' := [some (vR 0), some (vI ((i : Nat) : Int)), some (vI ((j : Nat) : Int)), some (vI w), some (vI ((f : Nat) : Int)), some (vI (((x + 1) : Nat) : Int)), some (vI 0)]) hO dX11_rests_42 rfl (Nat.le_of_ble_eq_true rfl) rfl rfl ?_
                refine aw_lsq (ls' := [some (vR 0), some (vI ((i : Nat) : Int)), some (vI ((j : Nat) : Int)), some (vI w), some (vI ((f : Nat) : Int)), some (vI ((x + 1 : Nat) : Int)), some (vI ((0 : Nat) : Int))]) rfl ?_
                exact ih (x + 1) 0 (f) (by omega) (by decide) (by rw [show 4 * (x + 1) + 0 = 4 * x + y + 1 by omega]; exact hc1.symm) (by rw [show 4 * (x + 1) + 0 = 4 * x + y + 1 by omega]; exact hn1)
            · exact absurd c47 (by omega)
        · refine aw_iload hO dX11_rests_66 rfl rfl ?_
          refine aw_iload_n hO dX11_rests_68 rfl rfl ?_
          refine aw_icmp_ne (tgt := 81) hO dX11_rests_69 rfl rfl (inRn (by omega)) hw (fun c69 => ?_) (fun c69 => ?_)
          · have hc1 : cntB (rstP ν i j) (4 * x + y + 1) = f + 1 := by rw [cntB_t (by rw [hrP]; exact c63), hf]
            have hn1 : fndG (rstP ν i j) cd4 w (4 * x + y + 1) = none := fndG_n2 hnone (by rw [← hf]; exact c69)
            refine aw_iinc (ls' := [some (vR 0), some (vI ((i : Nat) : Int)), some (vI ((j : Nat) : Int)), some (vI w), some (vI (((f : Nat) : Int) + 1)), some (vI ((x : Nat) : Int)), some (vI ((y : Nat) : Int))]) hO dX11_rests_81 rfl rfl rfl rfl ?_
            refine aw_lsq (ls' := [some (vR 0), some (vI ((i : Nat) : Int)), some (vI ((j : Nat) : Int)), some (vI w), some (vI (((f + 1) : Nat) : Int)), some (vI ((x : Nat) : Int)), some (vI ((y : Nat) : Int))]) rfl ?_
            refine aw_iinc (ls' := [some (vR 0), some (vI ((i : Nat) : Int)), some (vI ((j : Nat) : Int)), some (vI w), some (vI (((f + 1) : Nat) : Int)), some (vI ((x : Nat) : Int)), some (vI (((y : Nat) : Int) + 1))]) hO dX11_rests_84 rfl rfl rfl rfl ?_
            refine aw_lsq (ls' := [some (vR 0), some (vI ((i : Nat) : Int)), some (vI ((j : Nat) : Int)), some (vI w), some (vI (((f + 1) : Nat) : Int)), some (vI ((x : Nat) : Int)), some (vI (((y + 1) : Nat) : Int))]) rfl ?_
            refine aw_goto (tgt := 44) hO dX11_rests_87 rfl ?_
            by_cases hy3 : y + 1 < 4
            · refine aw_lsq (ls' := [some (vR 0), some (vI ((i : Nat) : Int)), some (vI ((j : Nat) : Int)), some (vI w), some (vI (((f + 1) : Nat) : Int)), some (vI ((x : Nat) : Int)), some (vI ((y + 1 : Nat) : Int))]) rfl ?_
              exact ih x (y + 1) ((f + 1)) (by omega) hy3 (by rw [← Nat.add_assoc]; exact hc1.symm) (by rw [← Nat.add_assoc]; exact hn1)
            · have hy5 : y = 3 := by omega
              refine aw_lsq (ls' := [some (vR 0), some (vI ((i : Nat) : Int)), some (vI ((j : Nat) : Int)), some (vI w), some (vI (((f + 1) : Nat) : Int)), some (vI ((x : Nat) : Int)), some (vI (((y + 1) : Nat) : Int))]) rfl ?_
              refine aw_iload hO dX11_rests_44 rfl rfl ?_
              refine aw_iconst hO dX11_rests_46 rfl ?_
              refine aw_icmp_gt (tgt := 90) hO dX11_rests_47 rfl rfl (inRn (by omega)) (inRlit _) (fun c47 => ?_) (fun c47 => ?_)
              · refine aw_iinc (ls' := [some (vR 0), some (vI ((i : Nat) : Int)), some (vI ((j : Nat) : Int)), some (vI w), some (vI (((f + 1) : Nat) : Int)), some (vI (((x : Nat) : Int) + 1)), some (vI (((y + 1) : Nat) : Int))]) hO dX11_rests_90 rfl rfl rfl rfl ?_
                refine aw_lsq (ls' := [some (vR 0), some (vI ((i : Nat) : Int)), some (vI ((j : Nat) : Int)), some (vI w), some (vI (((f + 1) : Nat) : Int)), some (vI (((x + 1) : Nat) : Int)), some (vI (((y + 1) : Nat) : Int))]) rfl ?_
                refine aw_goto (tgt := 35) hO dX11_rests_93 rfl ?_
                refine aw_iload hO dX11_rests_35 rfl rfl ?_
                refine aw_iconst hO dX11_rests_37 rfl ?_
                refine aw_icmp_gt (tgt := 96) hO dX11_rests_38 rfl rfl (inRn (by omega)) (inRlit _) (fun c38 => ?_) (fun c38 => ?_)
                · exact absurd c38 (by omega)
                · refine aw_iconst hO dX11_rests_41 rfl ?_
                  refine aw_istore (ls' := [some (vR 0), some (vI ((i : Nat) : Int)), some (vI ((j : Nat) : Int)), some (vI w), some (vI (((f + 1) : Nat) : Int)), some (vI (((x + 1) : Nat) : Int)), some (vI 0)]) hO dX11_rests_42 rfl (Nat.le_of_ble_eq_true rfl) rfl rfl ?_
                  refine aw_lsq (ls' := [some (vR 0), some (vI ((i : Nat) : Int)), some (vI ((j : Nat) : Int)), some (vI w), some (vI (((f + 1) : Nat) : Int)), some (vI ((x + 1 : Nat) : Int)), some (vI ((0 : Nat) : Int))]) rfl ?_
                  exact ih (x + 1) 0 ((f + 1)) (by omega) (by decide) (by rw [show 4 * (x + 1) + 0 = 4 * x + y + 1 by omega]; exact hc1.symm) (by rw [show 4 * (x + 1) + 0 = 4 * x + y + 1 by omega]; exact hn1)
              · exact absurd c47 (by omega)
          · refine aw_bipush hO dX11_rests_72 rfl (by decide) (by decide) ?_
            refine aw_iload hO dX11_rests_74 rfl rfl ?_
            refine aw_imul hO dX11_rests_76 rfl ?_
            refine aw_iload hO dX11_rests_77 rfl rfl ?_
            refine aw_iadd hO dX11_rests_79 rfl ?_
            refine aw_iret hO dX11_rests_80 ?_
            exact ⟨_, rfl, by rw [if_pos ⟨h2, hw1⟩]; exact ((selG_hit hnone (by rw [hrP]; exact c63) (by rw [← hf]; exact c69) (by omega)).trans hcd).symm, QF.of hF⟩
  refine aw_aload_n hO dX11_rests_0 rfl rfl ?_
  refine aw_iload_n hO dX11_rests_1 rfl rfl ?_
  refine aw_iload_n hO dX11_rests_2 rfl rfl ?_
  refine aw_callVI (as := [vI v, vI u]) (st := []) hO dX11_rests_3 rfl (lw_t5 33 rfl rfl) kX11_isPair (T := TX11) rfl (by decide) rfl (cP_isPair h hv hu) (by decide) rfl rfl rfl (Nat.le_of_ble_eq_true rfl) ?_
  refine aw_ifz_eq (tgt := 14) hO dX11_rests_6 rfl rfl (fun c6 => ?_) (fun c6 => ?_)
  · refine aw_iconst hO dX11_rests_14 rfl ?_
    refine aw_iret hO dX11_rests_15 ?_
    exact ⟨_, rfl, by rw [if_neg (fun z => c6 z.1)], QF.rf⟩
  · refine aw_iload_n hO dX11_rests_9 rfl rfl ?_
    refine aw_iconst hO dX11_rests_10 rfl ?_
    refine aw_icmp_ge (tgt := 16) hO dX11_rests_11 rfl rfl hw (inRlit _) (fun c11 => ?_) (fun c11 => ?_)
    · refine aw_aload_n hO dX11_rests_16 rfl rfl ?_
      refine gC_X11_83_0 hO dX11_rests_17 rfl ?_
      refine aw_aload_n hO dX11_rests_20 rfl rfl ?_
      refine gC_X11_48_0 hO dX11_rests_21 rfl ?_
      refine aw_iload_n hO dX11_rests_24 rfl rfl ?_
      refine aw_iload_n hO dX11_rests_25 rfl rfl ?_
      have q1 := c6.1
      have q2 := c6.2.1
      have q3 := c6.2.2.1
      obtain ⟨i, hie⟩ := Int.eq_ofNat_of_zero_le q1.1
      obtain ⟨j, hje⟩ := Int.eq_ofNat_of_zero_le q2.1
      subst hie hje
      refine aw_callVV (as := [vR 27, vI ((i : Nat) : Int), vI ((j : Nat) : Int)]) (st := []) hO dX11_rests_26 rfl (lw_t5 37 rfl rfl) kX6_play (T := TX6) rfl (by decide) rfl (cJ_play h.JR (i := i) (j := j) (by omega) (by omega) (by omega)) (by decide) rfl rfl rfl (Nat.le_of_ble_eq_true rfl) (fun μ2 hq3 => ?_)
      obtain ⟨hF_μ2, hW⟩ := hq3
      refine aw_iconst hO dX11_rests_29 rfl ?_
      refine aw_istore (ls' := [some (vR 0), some (vI ((i : Nat) : Int)), some (vI ((j : Nat) : Int)), some (vI w), some (vI 0), none, none]) hO dX11_rests_30 rfl (Nat.le_of_ble_eq_true rfl) rfl rfl ?_
      refine aw_iconst hO dX11_rests_32 rfl ?_
      refine aw_istore (ls' := [some (vR 0), some (vI ((i : Nat) : Int)), some (vI ((j : Nat) : Int)), some (vI w), some (vI 0), some (vI 0), none]) hO dX11_rests_33 rfl (Nat.le_of_ble_eq_true rfl) rfl rfl ?_
      refine aw_iload hO dX11_rests_35 rfl rfl ?_
      refine aw_iconst hO dX11_rests_37 rfl ?_
      refine aw_icmp_gt (tgt := 96) hO dX11_rests_38 rfl rfl (inRlit _) (inRlit _) (fun c38 => ?_) (fun c38 => ?_)
      · exact absurd c38 (by omega)
      · refine aw_iconst hO dX11_rests_41 rfl ?_
        refine aw_istore (ls' := [some (vR 0), some (vI ((i : Nat) : Int)), some (vI ((j : Nat) : Int)), some (vI w), some (vI 0), some (vI 0), some (vI 0)]) hO dX11_rests_42 rfl (Nat.le_of_ble_eq_true rfl) rfl rfl ?_
        refine aw_lsq (ls' := [some (vR 0), some (vI ((i : Nat) : Int)), some (vI ((j : Nat) : Int)), some (vI w), some (vI ((0 : Nat) : Int)), some (vI ((0 : Nat) : Int)), some (vI ((0 : Nat) : Int))]) rfl ?_
        exact body i j μ2 rfl rfl q1.2 q2.2 c6 c11 hF_μ2 hW 15 0 0 0 (by decide) (by decide) rfl rfl
    · refine aw_iconst hO dX11_rests_14 rfl ?_
      refine aw_iret hO dX11_rests_15 ?_
      exact ⟨_, rfl, by rw [if_neg (fun z => by have := z.2; omega)], QF.rf⟩
