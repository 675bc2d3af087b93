/-! ## a person, where the class answers -/
theorem dX11_person_0 : decode cX11_person 0 = .ok (.aload_n 0, 1) := by decide +kernel
theorem dX11_person_1 : decode cX11_person 1 = .ok (.getfield 41, 3) := by decide +kernel
theorem dX11_person_4 : decode cX11_person 4 = .ok (.iload_n 1, 1) := by decide +kernel
theorem dX11_person_5 : decode cX11_person 5 = .ok (.invokevirtual 164, 3) := by decide +kernel
theorem dX11_person_8 : decode cX11_person 8 = .ok (.ifCond .ne 13, 3) := by decide +kernel
theorem dX11_person_11 : decode cX11_person 11 = .ok (.new 168, 3) := by decide +kernel
theorem dX11_person_14 : decode cX11_person 14 = .ok (.dup, 1) := by decide +kernel
theorem dX11_person_15 : decode cX11_person 15 = .ok (.ldc 170, 2) := by decide +kernel
theorem dX11_person_17 : decode cX11_person 17 = .ok (.invokespecial 172, 3) := by decide +kernel
theorem dX11_person_20 : decode cX11_person 20 = .ok (.athrow, 1) := by decide +kernel
theorem dX11_person_21 : decode cX11_person 21 = .ok (.iload_n 2, 1) := by decide +kernel
theorem dX11_person_22 : decode cX11_person 22 = .ok (.tableswitch 128 0 6 #[42, 56, 70, 84, 93, 102, 119], 42) := by decide +kernel
theorem dX11_person_64 : decode cX11_person 64 = .ok (.aload_n 0, 1) := by decide +kernel
theorem dX11_person_65 : decode cX11_person 65 = .ok (.getfield 67, 3) := by decide +kernel
theorem dX11_person_68 : decode cX11_person 68 = .ok (.aload_n 0, 1) := by decide +kernel
theorem dX11_person_69 : decode cX11_person 69 = .ok (.getfield 48, 3) := by decide +kernel
theorem dX11_person_72 : decode cX11_person 72 = .ok (.iload_n 1, 1) := by decide +kernel
theorem dX11_person_73 : decode cX11_person 73 = .ok (.iconst 0, 1) := by decide +kernel
theorem dX11_person_74 : decode cX11_person 74 = .ok (.invokevirtual 175, 3) := by decide +kernel
theorem dX11_person_77 : decode cX11_person 77 = .ok (.ireturn, 1) := by decide +kernel
theorem dX11_person_78 : decode cX11_person 78 = .ok (.aload_n 0, 1) := by decide +kernel
theorem dX11_person_79 : decode cX11_person 79 = .ok (.getfield 67, 3) := by decide +kernel
theorem dX11_person_82 : decode cX11_person 82 = .ok (.aload_n 0, 1) := by decide +kernel
theorem dX11_person_83 : decode cX11_person 83 = .ok (.getfield 48, 3) := by decide +kernel
theorem dX11_person_86 : decode cX11_person 86 = .ok (.iload_n 1, 1) := by decide +kernel
theorem dX11_person_87 : decode cX11_person 87 = .ok (.iconst 1, 1) := by decide +kernel
theorem dX11_person_88 : decode cX11_person 88 = .ok (.invokevirtual 175, 3) := by decide +kernel
theorem dX11_person_91 : decode cX11_person 91 = .ok (.ireturn, 1) := by decide +kernel
theorem dX11_person_92 : decode cX11_person 92 = .ok (.aload_n 0, 1) := by decide +kernel
theorem dX11_person_93 : decode cX11_person 93 = .ok (.getfield 67, 3) := by decide +kernel
theorem dX11_person_96 : decode cX11_person 96 = .ok (.aload_n 0, 1) := by decide +kernel
theorem dX11_person_97 : decode cX11_person 97 = .ok (.getfield 48, 3) := by decide +kernel
theorem dX11_person_100 : decode cX11_person 100 = .ok (.iload_n 1, 1) := by decide +kernel
theorem dX11_person_101 : decode cX11_person 101 = .ok (.iconst 2, 1) := by decide +kernel
theorem dX11_person_102 : decode cX11_person 102 = .ok (.invokevirtual 175, 3) := by decide +kernel
theorem dX11_person_105 : decode cX11_person 105 = .ok (.ireturn, 1) := by decide +kernel
theorem dX11_person_106 : decode cX11_person 106 = .ok (.aload_n 0, 1) := by decide +kernel
theorem dX11_person_107 : decode cX11_person 107 = .ok (.getfield 41, 3) := by decide +kernel
theorem dX11_person_110 : decode cX11_person 110 = .ok (.iload_n 1, 1) := by decide +kernel
theorem dX11_person_111 : decode cX11_person 111 = .ok (.invokevirtual 179, 3) := by decide +kernel
theorem dX11_person_114 : decode cX11_person 114 = .ok (.ireturn, 1) := by decide +kernel
theorem dX11_person_115 : decode cX11_person 115 = .ok (.aload_n 0, 1) := by decide +kernel
theorem dX11_person_116 : decode cX11_person 116 = .ok (.getfield 48, 3) := by decide +kernel
theorem dX11_person_119 : decode cX11_person 119 = .ok (.iload_n 1, 1) := by decide +kernel
theorem dX11_person_120 : decode cX11_person 120 = .ok (.invokevirtual 182, 3) := by decide +kernel
theorem dX11_person_123 : decode cX11_person 123 = .ok (.ireturn, 1) := by decide +kernel
theorem dX11_person_124 : decode cX11_person 124 = .ok (.aload_n 0, 1) := by decide +kernel
theorem dX11_person_125 : decode cX11_person 125 = .ok (.getfield 48, 3) := by decide +kernel
theorem dX11_person_128 : decode cX11_person 128 = .ok (.iload_n 1, 1) := by decide +kernel
theorem dX11_person_129 : decode cX11_person 129 = .ok (.invokevirtual 185, 3) := by decide +kernel
theorem dX11_person_132 : decode cX11_person 132 = .ok (.ifCond .eq 7, 3) := by decide +kernel
theorem dX11_person_135 : decode cX11_person 135 = .ok (.iconst 1, 1) := by decide +kernel
theorem dX11_person_136 : decode cX11_person 136 = .ok (.goto 4, 3) := by decide +kernel
theorem dX11_person_139 : decode cX11_person 139 = .ok (.iconst 0, 1) := by decide +kernel
theorem dX11_person_140 : decode cX11_person 140 = .ok (.ireturn, 1) := by decide +kernel
theorem dX11_person_141 : decode cX11_person 141 = .ok (.aload_n 0, 1) := by decide +kernel
theorem dX11_person_142 : decode cX11_person 142 = .ok (.getfield 48, 3) := by decide +kernel
theorem dX11_person_145 : decode cX11_person 145 = .ok (.iload_n 1, 1) := by decide +kernel
theorem dX11_person_146 : decode cX11_person 146 = .ok (.invokevirtual 188, 3) := by decide +kernel
theorem dX11_person_149 : decode cX11_person 149 = .ok (.ireturn, 1) := by decide +kernel
theorem dX11_person_150 : decode cX11_person 150 = .ok (.new 168, 3) := by decide +kernel
theorem dX11_person_153 : decode cX11_person 153 = .ok (.dup, 1) := by decide +kernel
theorem dX11_person_154 : decode cX11_person 154 = .ok (.ldc 191, 2) := by decide +kernel
theorem dX11_person_156 : decode cX11_person 156 = .ok (.invokespecial 172, 3) := by decide +kernel
theorem dX11_person_159 : decode cX11_person 159 = .ok (.athrow, 1) := by decide +kernel
set_option maxHeartbeats 4000000 in
set_option maxRecDepth 100000 in
theorem cP_person {μ ν : Mm} (h : Rel μ ν) {p : Nat} {u : Int} (hp : (p : Int) < ν.1 0 25) (hu : 0 ≤ u ∧ u ≤ 6) : CtI PC 2 yX11_person cX11_person 3 (some .int) [vR 0, vI ((p : Nat) : Int), vI u] μ (perM ν ((p : Nat) : Int) u) := by
  refine ct_intro [some (vR 0), some (vI ((p : Nat) : Int)), some (vI u)] RX11 (by decide) rfl XCo rfl (Nat.le_of_ble_eq_true rfl) (fun K hO => ?_)
  obtain ⟨c, hc, hlc1, hlc2, hl3, hl4, hl5⟩ := h.L
  obtain ⟨N, hN, hN1, hN2, hN3⟩ := h.P
  obtain ⟨a, x, ha, hx, ha1, ha2, ha3, ha4⟩ := h.A
  have hnp := h.B.np
  have hnt := h.B.nt
  have hr := h.B.now.rest
  have hN15 := h.N.2.1
  refine aw_aload_n hO dX11_person_0 rfl rfl ?_
  refine gC_X11_41_0 hO dX11_person_1 rfl ?_
  refine aw_iload_n hO dX11_person_4 rfl rfl ?_
  refine aw_callVI (as := [vI ((p : Nat) : Int)]) (st := []) hO dX11_person_5 rfl (lw_t3 170 rfl rfl) kX9_hasPerson (T := TX9) rfl (by decide) rfl (cJ_hasPerson h.JR.z (v := ((p : Nat) : Int)) ⟨by omega, by omega⟩) (by decide) rfl rfl rfl (Nat.le_of_ble_eq_true rfl) ?_
  refine aw_ifz_ne (tgt := 21) hO dX11_person_8 rfl rfl (fun c8 => ?_) (fun c8 => ?_)
  · refine aw_iload_n hO dX11_person_21 rfl rfl ?_
    by_cases hc0 : u = 0
    · refine aw_tableIn (tgt := 64) hO dX11_person_22 ⟨by omega, by omega⟩ (by omega) (by omega) (by rw [hc0]; rfl) rfl ?_
      refine aw_aload_n hO dX11_person_64 rfl rfl ?_
      refine gC_X11_67_0 hO dX11_person_65 rfl ?_
      refine aw_aload_n hO dX11_person_68 rfl rfl ?_
      refine gC_X11_48_0 hO dX11_person_69 rfl ?_
      refine aw_iload_n hO dX11_person_72 rfl rfl ?_
      refine aw_iconst hO dX11_person_73 rfl ?_
      refine aw_callVI (as := [vR 27, vI ((p : Nat) : Int), vI ((0 : Nat) : Int)]) (st := []) hO dX11_person_74 rfl (lw_t3 188 rfl rfl) kX3_seeming (T := TX3) rfl (by decide) rfl (cJ_seeming h.JR (p := p) (k := 0) hp (by decide)) (by decide) rfl rfl rfl (Nat.le_of_ble_eq_true rfl) ?_
      refine aw_iret hO dX11_person_77 ?_
      exact rI (by unfold perM; simp [*])
    by_cases hc1 : u = 1
    · refine aw_tableIn (tgt := 78) hO dX11_person_22 ⟨by omega, by omega⟩ (by omega) (by omega) (by rw [hc1]; rfl) rfl ?_
      refine aw_aload_n hO dX11_person_78 rfl rfl ?_
      refine gC_X11_67_0 hO dX11_person_79 rfl ?_
      refine aw_aload_n hO dX11_person_82 rfl rfl ?_
      refine gC_X11_48_0 hO dX11_person_83 rfl ?_
      refine aw_iload_n hO dX11_person_86 rfl rfl ?_
      refine aw_iconst hO dX11_person_87 rfl ?_
      refine aw_callVI (as := [vR 27, vI ((p : Nat) : Int), vI ((1 : Nat) : Int)]) (st := []) hO dX11_person_88 rfl (lw_t3 188 rfl rfl) kX3_seeming (T := TX3) rfl (by decide) rfl (cJ_seeming h.JR (p := p) (k := 1) hp (by decide)) (by decide) rfl rfl rfl (Nat.le_of_ble_eq_true rfl) ?_
      refine aw_iret hO dX11_person_91 ?_
      exact rI (by unfold perM; simp [*])
    by_cases hc2 : u = 2
    · refine aw_tableIn (tgt := 92) hO dX11_person_22 ⟨by omega, by omega⟩ (by omega) (by omega) (by rw [hc2]; rfl) rfl ?_
      refine aw_aload_n hO dX11_person_92 rfl rfl ?_
      refine gC_X11_67_0 hO dX11_person_93 rfl ?_
      refine aw_aload_n hO dX11_person_96 rfl rfl ?_
      refine gC_X11_48_0 hO dX11_person_97 rfl ?_
      refine aw_iload_n hO dX11_person_100 rfl rfl ?_
      refine aw_iconst hO dX11_person_101 rfl ?_
      refine aw_callVI (as := [vR 27, vI ((p : Nat) : Int), vI ((2 : Nat) : Int)]) (st := []) hO dX11_person_102 rfl (lw_t3 188 rfl rfl) kX3_seeming (T := TX3) rfl (by decide) rfl (cJ_seeming h.JR (p := p) (k := 2) hp (by decide)) (by decide) rfl rfl rfl (Nat.le_of_ble_eq_true rfl) ?_
      refine aw_iret hO dX11_person_105 ?_
      exact rI (by unfold perM; simp [*])
    by_cases hc3 : u = 3
    · refine aw_tableIn (tgt := 106) hO dX11_person_22 ⟨by omega, by omega⟩ (by omega) (by omega) (by rw [hc3]; rfl) rfl ?_
      refine aw_aload_n hO dX11_person_106 rfl rfl ?_
      refine gC_X11_41_0 hO dX11_person_107 rfl ?_
      refine aw_iload_n hO dX11_person_110 rfl rfl ?_
      refine aw_callVI (as := [vI ((p : Nat) : Int)]) (st := []) hO dX11_person_111 rfl (lw_t5 206 rfl rfl) kX9_door (T := TX9) rfl (by decide) rfl (cJ_door h.JR.z (p := p) (by omega)) (by decide) rfl rfl rfl (Nat.le_of_ble_eq_true rfl) ?_
      refine aw_iret hO dX11_person_114 ?_
      exact rI (by unfold perM; simp [*])
    by_cases hc4 : u = 4
    · refine aw_tableIn (tgt := 115) hO dX11_person_22 ⟨by omega, by omega⟩ (by omega) (by omega) (by rw [hc4]; rfl) rfl ?_
      refine aw_aload_n hO dX11_person_115 rfl rfl ?_
      refine gC_X11_48_0 hO dX11_person_116 rfl ?_
      refine aw_iload_n hO dX11_person_119 rfl rfl ?_
      refine aw_callVI (as := [vI ((p : Nat) : Int)]) (st := []) hO dX11_person_120 rfl (lw_t4 158 rfl rfl) kX7_meetings (T := TX7) rfl (by decide) rfl (cJ_meetings h.JR.ob h.JR.S (p := p) (by omega)) (by decide) rfl rfl rfl (Nat.le_of_ble_eq_true rfl) ?_
      refine aw_iret hO dX11_person_123 ?_
      exact rI (by unfold perM; simp [*])
    by_cases hc5 : u = 5
    · refine aw_tableIn (tgt := 124) hO dX11_person_22 ⟨by omega, by omega⟩ (by omega) (by omega) (by rw [hc5]; rfl) rfl ?_
      refine aw_aload_n hO dX11_person_124 rfl rfl ?_
      refine gC_X11_48_0 hO dX11_person_125 rfl ?_
      refine aw_iload_n hO dX11_person_128 rfl rfl ?_
      refine aw_callVI (as := [vI ((p : Nat) : Int)]) (st := []) hO dX11_person_129 rfl (lw_t3 208 rfl rfl) kX7_isAway (T := TX7) rfl (by decide) rfl (cJ_isAway h.JR.ob h.JR.S p) (by decide) rfl rfl rfl (Nat.le_of_ble_eq_true rfl) ?_
      refine aw_ifz_eq (tgt := 139) hO dX11_person_132 rfl rfl (fun c132 => ?_) (fun c132 => ?_)
      · refine aw_iconst hO dX11_person_139 rfl ?_
        refine aw_iret hO dX11_person_140 ?_
        exact rI (by unfold perM; simp [*])
      · refine aw_iconst hO dX11_person_135 rfl ?_
        refine aw_goto (tgt := 140) hO dX11_person_136 rfl ?_
        refine aw_iret hO dX11_person_140 ?_
        exact rI (by unfold perM; simp [*])
    by_cases hc6 : u = 6
    · refine aw_tableIn (tgt := 141) hO dX11_person_22 ⟨by omega, by omega⟩ (by omega) (by omega) (by rw [hc6]; rfl) rfl ?_
      refine aw_aload_n hO dX11_person_141 rfl rfl ?_
      refine gC_X11_48_0 hO dX11_person_142 rfl ?_
      refine aw_iload_n hO dX11_person_145 rfl rfl ?_
      refine aw_callVI (as := [vI ((p : Nat) : Int)]) (st := []) hO dX11_person_146 rfl (lw_t5 88 rfl rfl) kX7_chains (T := TX7) rfl (by decide) rfl (cJ_chains h.JR.ob h.JR.S (p := p) (by omega)) (by decide) rfl rfl rfl (Nat.le_of_ble_eq_true rfl) ?_
      refine aw_iret hO dX11_person_149 ?_
      exact rI (by unfold perM; simp [*])
    exfalso; omega
  · exact absurd c8 (by omega)
