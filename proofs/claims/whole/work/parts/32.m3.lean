theorem dX12_workOut_0 : decode cX12_workOut 0 = .ok (.iconst 0, 1) := by decide +kernel
theorem dX12_workOut_1 : decode cX12_workOut 1 = .ok (.istore 4, 2) := by decide +kernel
theorem dX12_workOut_3 : decode cX12_workOut 3 = .ok (.sipush 520, 3) := by decide +kernel
theorem dX12_workOut_6 : decode cX12_workOut 6 = .ok (.iload_n 1, 1) := by decide +kernel
theorem dX12_workOut_7 : decode cX12_workOut 7 = .ok (.imul, 1) := by decide +kernel
theorem dX12_workOut_8 : decode cX12_workOut 8 = .ok (.iload_n 2, 1) := by decide +kernel
theorem dX12_workOut_9 : decode cX12_workOut 9 = .ok (.iadd, 1) := by decide +kernel
theorem dX12_workOut_10 : decode cX12_workOut 10 = .ok (.istore 5, 2) := by decide +kernel
theorem dX12_workOut_12 : decode cX12_workOut 12 = .ok (.iload 5, 2) := by decide +kernel
theorem dX12_workOut_14 : decode cX12_workOut 14 = .ok (.sipush 520, 3) := by decide +kernel
theorem dX12_workOut_17 : decode cX12_workOut 17 = .ok (.iload_n 1, 1) := by decide +kernel
theorem dX12_workOut_18 : decode cX12_workOut 18 = .ok (.imul, 1) := by decide +kernel
theorem dX12_workOut_19 : decode cX12_workOut 19 = .ok (.iload_n 3, 1) := by decide +kernel
theorem dX12_workOut_20 : decode cX12_workOut 20 = .ok (.iadd, 1) := by decide +kernel
theorem dX12_workOut_21 : decode cX12_workOut 21 = .ok (.if_icmp .ge 150, 3) := by decide +kernel
theorem dX12_workOut_24 : decode cX12_workOut 24 = .ok (.aload_n 0, 1) := by decide +kernel
theorem dX12_workOut_25 : decode cX12_workOut 25 = .ok (.getfield 13, 3) := by decide +kernel
theorem dX12_workOut_28 : decode cX12_workOut 28 = .ok (.iload 5, 2) := by decide +kernel
theorem dX12_workOut_30 : decode cX12_workOut 30 = .ok (.iaload, 1) := by decide +kernel
theorem dX12_workOut_31 : decode cX12_workOut 31 = .ok (.ifCond .eq 14, 3) := by decide +kernel
theorem dX12_workOut_34 : decode cX12_workOut 34 = .ok (.aload_n 0, 1) := by decide +kernel
theorem dX12_workOut_35 : decode cX12_workOut 35 = .ok (.getfield 13, 3) := by decide +kernel
theorem dX12_workOut_38 : decode cX12_workOut 38 = .ok (.iload 5, 2) := by decide +kernel
theorem dX12_workOut_40 : decode cX12_workOut 40 = .ok (.iaload, 1) := by decide +kernel
theorem dX12_workOut_41 : decode cX12_workOut 41 = .ok (.iconst 1, 1) := by decide +kernel
theorem dX12_workOut_42 : decode cX12_workOut 42 = .ok (.if_icmp .ne 48, 3) := by decide +kernel
theorem dX12_workOut_45 : decode cX12_workOut 45 = .ok (.aload_n 0, 1) := by decide +kernel
theorem dX12_workOut_46 : decode cX12_workOut 46 = .ok (.getfield 37, 3) := by decide +kernel
theorem dX12_workOut_49 : decode cX12_workOut 49 = .ok (.iload 4, 2) := by decide +kernel
theorem dX12_workOut_51 : decode cX12_workOut 51 = .ok (.aload_n 0, 1) := by decide +kernel
theorem dX12_workOut_52 : decode cX12_workOut 52 = .ok (.getfield 13, 3) := by decide +kernel
theorem dX12_workOut_55 : decode cX12_workOut 55 = .ok (.iload 5, 2) := by decide +kernel
theorem dX12_workOut_57 : decode cX12_workOut 57 = .ok (.iaload, 1) := by decide +kernel
theorem dX12_workOut_58 : decode cX12_workOut 58 = .ok (.ifCond .ne 13, 3) := by decide +kernel
theorem dX12_workOut_61 : decode cX12_workOut 61 = .ok (.aload_n 0, 1) := by decide +kernel
theorem dX12_workOut_62 : decode cX12_workOut 62 = .ok (.getfield 16, 3) := by decide +kernel
theorem dX12_workOut_65 : decode cX12_workOut 65 = .ok (.iload 5, 2) := by decide +kernel
theorem dX12_workOut_67 : decode cX12_workOut 67 = .ok (.iaload, 1) := by decide +kernel
theorem dX12_workOut_68 : decode cX12_workOut 68 = .ok (.goto 15, 3) := by decide +kernel
theorem dX12_workOut_71 : decode cX12_workOut 71 = .ok (.aload_n 0, 1) := by decide +kernel
theorem dX12_workOut_72 : decode cX12_workOut 72 = .ok (.getfield 34, 3) := by decide +kernel
theorem dX12_workOut_75 : decode cX12_workOut 75 = .ok (.aload_n 0, 1) := by decide +kernel
theorem dX12_workOut_76 : decode cX12_workOut 76 = .ok (.getfield 16, 3) := by decide +kernel
theorem dX12_workOut_79 : decode cX12_workOut 79 = .ok (.iload 5, 2) := by decide +kernel
theorem dX12_workOut_81 : decode cX12_workOut 81 = .ok (.iaload, 1) := by decide +kernel
theorem dX12_workOut_82 : decode cX12_workOut 82 = .ok (.iaload, 1) := by decide +kernel
theorem dX12_workOut_83 : decode cX12_workOut 83 = .ok (.iastore, 1) := by decide +kernel
theorem dX12_workOut_84 : decode cX12_workOut 84 = .ok (.iinc 4 1, 3) := by decide +kernel
theorem dX12_workOut_87 : decode cX12_workOut 87 = .ok (.goto 78, 3) := by decide +kernel
theorem dX12_workOut_90 : decode cX12_workOut 90 = .ok (.aload_n 0, 1) := by decide +kernel
theorem dX12_workOut_91 : decode cX12_workOut 91 = .ok (.getfield 13, 3) := by decide +kernel
theorem dX12_workOut_94 : decode cX12_workOut 94 = .ok (.iload 5, 2) := by decide +kernel
theorem dX12_workOut_96 : decode cX12_workOut 96 = .ok (.iaload, 1) := by decide +kernel
theorem dX12_workOut_97 : decode cX12_workOut 97 = .ok (.bipush 9, 2) := by decide +kernel
theorem dX12_workOut_99 : decode cX12_workOut 99 = .ok (.if_icmp .ne 26, 3) := by decide +kernel
theorem dX12_workOut_102 : decode cX12_workOut 102 = .ok (.aload_n 0, 1) := by decide +kernel
theorem dX12_workOut_103 : decode cX12_workOut 103 = .ok (.getfield 37, 3) := by decide +kernel
theorem dX12_workOut_106 : decode cX12_workOut 106 = .ok (.iload 4, 2) := by decide +kernel
theorem dX12_workOut_108 : decode cX12_workOut 108 = .ok (.iconst 1, 1) := by decide +kernel
theorem dX12_workOut_109 : decode cX12_workOut 109 = .ok (.isub, 1) := by decide +kernel
theorem dX12_workOut_110 : decode cX12_workOut 110 = .ok (.iconst 1, 1) := by decide +kernel
theorem dX12_workOut_111 : decode cX12_workOut 111 = .ok (.aload_n 0, 1) := by decide +kernel
theorem dX12_workOut_112 : decode cX12_workOut 112 = .ok (.getfield 37, 3) := by decide +kernel
theorem dX12_workOut_115 : decode cX12_workOut 115 = .ok (.iload 4, 2) := by decide +kernel
theorem dX12_workOut_117 : decode cX12_workOut 117 = .ok (.iconst 1, 1) := by decide +kernel
theorem dX12_workOut_118 : decode cX12_workOut 118 = .ok (.isub, 1) := by decide +kernel
theorem dX12_workOut_119 : decode cX12_workOut 119 = .ok (.iaload, 1) := by decide +kernel
theorem dX12_workOut_120 : decode cX12_workOut 120 = .ok (.isub, 1) := by decide +kernel
theorem dX12_workOut_121 : decode cX12_workOut 121 = .ok (.iastore, 1) := by decide +kernel
theorem dX12_workOut_122 : decode cX12_workOut 122 = .ok (.goto 43, 3) := by decide +kernel
theorem dX12_workOut_125 : decode cX12_workOut 125 = .ok (.iinc 4 (-1), 3) := by decide +kernel
theorem dX12_workOut_128 : decode cX12_workOut 128 = .ok (.aload_n 0, 1) := by decide +kernel
theorem dX12_workOut_129 : decode cX12_workOut 129 = .ok (.getfield 37, 3) := by decide +kernel
theorem dX12_workOut_132 : decode cX12_workOut 132 = .ok (.iload 4, 2) := by decide +kernel
theorem dX12_workOut_134 : decode cX12_workOut 134 = .ok (.iconst 1, 1) := by decide +kernel
theorem dX12_workOut_135 : decode cX12_workOut 135 = .ok (.isub, 1) := by decide +kernel
theorem dX12_workOut_136 : decode cX12_workOut 136 = .ok (.aload_n 0, 1) := by decide +kernel
theorem dX12_workOut_137 : decode cX12_workOut 137 = .ok (.getfield 13, 3) := by decide +kernel
theorem dX12_workOut_140 : decode cX12_workOut 140 = .ok (.iload 5, 2) := by decide +kernel
theorem dX12_workOut_142 : decode cX12_workOut 142 = .ok (.iaload, 1) := by decide +kernel
theorem dX12_workOut_143 : decode cX12_workOut 143 = .ok (.aload_n 0, 1) := by decide +kernel
theorem dX12_workOut_144 : decode cX12_workOut 144 = .ok (.getfield 37, 3) := by decide +kernel
theorem dX12_workOut_147 : decode cX12_workOut 147 = .ok (.iload 4, 2) := by decide +kernel
theorem dX12_workOut_149 : decode cX12_workOut 149 = .ok (.iconst 1, 1) := by decide +kernel
theorem dX12_workOut_150 : decode cX12_workOut 150 = .ok (.isub, 1) := by decide +kernel
theorem dX12_workOut_151 : decode cX12_workOut 151 = .ok (.iaload, 1) := by decide +kernel
theorem dX12_workOut_152 : decode cX12_workOut 152 = .ok (.i2l, 1) := by decide +kernel
theorem dX12_workOut_153 : decode cX12_workOut 153 = .ok (.aload_n 0, 1) := by decide +kernel
theorem dX12_workOut_154 : decode cX12_workOut 154 = .ok (.getfield 37, 3) := by decide +kernel
theorem dX12_workOut_157 : decode cX12_workOut 157 = .ok (.iload 4, 2) := by decide +kernel
theorem dX12_workOut_159 : decode cX12_workOut 159 = .ok (.iaload, 1) := by decide +kernel
theorem dX12_workOut_160 : decode cX12_workOut 160 = .ok (.i2l, 1) := by decide +kernel
theorem dX12_workOut_161 : decode cX12_workOut 161 = .ok (.invokestatic 197, 3) := by decide +kernel
theorem dX12_workOut_164 : decode cX12_workOut 164 = .ok (.iastore, 1) := by decide +kernel
theorem dX12_workOut_165 : decode cX12_workOut 165 = .ok (.iinc 5 1, 3) := by decide +kernel
theorem dX12_workOut_168 : decode cX12_workOut 168 = .ok (.goto (-156), 3) := by decide +kernel
theorem dX12_workOut_171 : decode cX12_workOut 171 = .ok (.aload_n 0, 1) := by decide +kernel
theorem dX12_workOut_172 : decode cX12_workOut 172 = .ok (.getfield 37, 3) := by decide +kernel
theorem dX12_workOut_175 : decode cX12_workOut 175 = .ok (.iconst 0, 1) := by decide +kernel
theorem dX12_workOut_176 : decode cX12_workOut 176 = .ok (.iaload, 1) := by decide +kernel
theorem dX12_workOut_177 : decode cX12_workOut 177 = .ok (.ireturn, 1) := by decide +kernel
set_option maxHeartbeats 4000000 in
set_option maxRecDepth 100000 in
theorem ctM_workOut (μ : Mm) {n fr to : Nat} (hn : n ≤ 4) (hft : fr ≤ to) (hto : to ≤ 520) (hok : okR (μ.1 2) (μ.1 3) (to - fr) (520 * n + fr) 0) (hlt : ∀ i, i < 6 → -1000000 ≤ μ.1 9 i ∧ μ.1 9 i ≤ 1000000) : CtE PM 3 yX12_workOut cX12_workOut 6 (some .int) [vR 0, vI ((n : Nat) : Int), vI ((fr : Nat) : Int), vI ((to : Nat) : Int)] μ (fun v m => (v = (evR (μ.1 2) (μ.1 3) (μ.1 9) (to - fr) (520 * n + fr) []).headD 0 ∧ -1000520 ≤ v ∧ v ≤ 1000520) ∧ Sc s10 μ m) := by
  refine ct_intro [some (vR 0), some (vI ((n : Nat) : Int)), some (vI ((fr : Nat) : Int)), some (vI ((to : Nat) : Int)), none, none] RX12 (by decide) rfl XM rfl (Nat.le_of_ble_eq_true rfl) (fun K hO => ?_)
  have lp : ∀ (c : Nat) (k : Nat) (s : List Int) (m : Mm), (k + c = 520 * n + to) → (520 * n ≤ k) → (okR (μ.1 2) (μ.1 3) c k s.length) → (s.length ≤ 31) → (Rep (m.1 10) s) → (Sc s10 μ m) → (lim (1000520 - (c : Int)) s) → (evR (μ.1 2) (μ.1 3) (μ.1 9) c k s = evR (μ.1 2) (μ.1 3) (μ.1 9) (to - fr) (520 * n + fr) []) → AW K 12 [some (vR 0), some (vI ((n : Nat) : Int)), some (vI ((fr : Nat) : Int)), some (vI ((to : Nat) : Int)), some (vI ((s.length : Nat) : Int)), some (vI ((k : Nat) : Int))] [] m := by
    intro c
    induction c with
    | zero =>
      intro k s m hk hkn hok1 hsl hr hS hl hF
      have hs1 : s.length = 1 := hok1
      obtain ⟨a, hs⟩ := List.length_eq_one_iff.mp hs1
      have ha : m.1 10 0 = a := by rw [hs] at hr; exact hr.1
      refine aw_iload hO dX12_workOut_12 rfl rfl ?_
      refine aw_sipush hO dX12_workOut_14 rfl (by decide) (by decide) ?_
      refine aw_iload_n hO dX12_workOut_17 rfl rfl ?_
      refine aw_imul hO dX12_workOut_18 rfl ?_
      refine aw_iload_n hO dX12_workOut_19 rfl rfl ?_
      refine aw_iadd hO dX12_workOut_20 rfl ?_
      refine aw_icmp_ge (tgt := 171) hO dX12_workOut_21 rfl rfl (inRn (by omega)) ⟨by omega, by omega⟩ (fun c21 => ?_) (fun c21 => ?_)
      · refine aw_aload_n hO dX12_workOut_171 rfl rfl ?_
        refine gM_stack hO dX12_workOut_172 rfl ?_
        refine aw_iconst hO dX12_workOut_175 rfl ?_
        refine aw_ialdn (N := 80) (i := 0) hO dX12_workOut_176 rfl (by decide) rfl (by decide) rfl (by decide) ?_
        refine aw_iret hO dX12_workOut_177 ?_
        exact ⟨_, rfl, ⟨by rw [← hF]; exact ha.symm ▸ (by rw [hs]; rfl), by have := hl a (by rw [hs]; exact List.mem_cons_self); omega, by have := hl a (by rw [hs]; exact List.mem_cons_self); omega⟩, hS⟩
      · exact absurd c21 (by omega)
    | succ c ih =>
      intro k s m hk hkn hok1 hsl hr hS hl hF
      refine aw_iload hO dX12_workOut_12 rfl rfl ?_
      refine aw_sipush hO dX12_workOut_14 rfl (by decide) (by decide) ?_
      refine aw_iload_n hO dX12_workOut_17 rfl rfl ?_
      refine aw_imul hO dX12_workOut_18 rfl ?_
      refine aw_iload_n hO dX12_workOut_19 rfl rfl ?_
      refine aw_iadd hO dX12_workOut_20 rfl ?_
      refine aw_icmp_ge (tgt := 171) hO dX12_workOut_21 rfl rfl (inRn (by omega)) ⟨by omega, by omega⟩ (fun c21 => ?_) (fun c21 => ?_)
      · exact absurd c21 (by omega)
      · obtain ⟨ht, h1, h2, h3, hok2⟩ := hok1
        have hcd : 0 ≤ μ.1 2 k ∧ μ.1 2 k ≤ 11 := by unfold tokOk at ht; dsimp only at ht; omega
        refine aw_aload_n hO dX12_workOut_24 rfl rfl ?_
        refine gM_code hO dX12_workOut_25 rfl ?_
        refine aw_iload hO dX12_workOut_28 rfl rfl ?_
        refine aw_ialdn (N := 2600) (i := k) hO dX12_workOut_30 rfl (by decide) rfl (by decide) (by omega) (by omega) ?_
        refine aw_cg (hS.1 2 k rfl) ?_
        refine aw_if_eq (tgt := 45) hO dX12_workOut_31 rfl rfl ⟨by omega, by omega⟩ (fun c31 => ?_) (fun c31 => ?_)
        · have hlen := h1 (by omega)
          have hv : 0 ≤ μ.1 3 k ∧ μ.1 3 k ≤ 9999 := by unfold tokOk at ht; dsimp only at ht; omega
          refine aw_aload_n hO dX12_workOut_45 rfl rfl ?_
          refine gM_stack hO dX12_workOut_46 rfl ?_
          refine aw_iload hO dX12_workOut_49 rfl rfl ?_
          refine aw_aload_n hO dX12_workOut_51 rfl rfl ?_
          refine gM_code hO dX12_workOut_52 rfl ?_
          refine aw_iload hO dX12_workOut_55 rfl rfl ?_
          refine aw_ialdn (N := 2600) (i := k) hO dX12_workOut_57 rfl (by decide) rfl (by decide) (by omega) (by omega) ?_
          refine aw_cg (hS.1 2 k rfl) ?_
          refine aw_if_ne (tgt := 71) hO dX12_workOut_58 rfl rfl ⟨by omega, by omega⟩ (fun c58 => ?_) (fun c58 => ?_)
          · exact absurd c58 (by omega)
          · refine aw_aload_n hO dX12_workOut_61 rfl rfl ?_
            refine gM_value hO dX12_workOut_62 rfl ?_
            refine aw_iload hO dX12_workOut_65 rfl rfl ?_
            refine aw_ialdn (N := 2600) (i := k) hO dX12_workOut_67 rfl (by decide) rfl (by decide) (by omega) (by omega) ?_
            refine aw_cg (hS.1 3 k rfl) ?_
            refine aw_goto (tgt := 83) hO dX12_workOut_68 rfl ?_
            refine aw_iastn (N := 80) (i := s.length) hO dX12_workOut_83 rfl (by decide) rfl (by decide) (by omega) (by omega) ?_
            refine aw_mm (fun μ1 e_μ1 => ?_)
            refine aw_iinc (ls' := [some (vR 0), some (vI ((n : Nat) : Int)), some (vI ((fr : Nat) : Int)), some (vI ((to : Nat) : Int)), some (vI (((s.length : Nat) : Int) + 1)), some (vI ((k : Nat) : Int))]) hO dX12_workOut_84 rfl rfl rfl rfl ?_
            refine aw_lsq (ls' := [some (vR 0), some (vI ((n : Nat) : Int)), some (vI ((fr : Nat) : Int)), some (vI ((to : Nat) : Int)), some (vI (((s.length + 1) : Nat) : Int)), some (vI ((k : Nat) : Int))]) rfl ?_
            refine aw_goto (tgt := 165) hO dX12_workOut_87 rfl ?_
            refine aw_iinc (ls' := [some (vR 0), some (vI ((n : Nat) : Int)), some (vI ((fr : Nat) : Int)), some (vI ((to : Nat) : Int)), some (vI (((s.length + 1) : Nat) : Int)), some (vI (((k : Nat) : Int) + 1))]) hO dX12_workOut_165 rfl rfl rfl rfl ?_
            refine aw_lsq (ls' := [some (vR 0), some (vI ((n : Nat) : Int)), some (vI ((fr : Nat) : Int)), some (vI ((to : Nat) : Int)), some (vI (((s.length + 1) : Nat) : Int)), some (vI (((k + 1) : Nat) : Int))]) rfl ?_
            refine aw_goto (tgt := 12) hO dX12_workOut_168 rfl ?_
            refine aw_lsq (ls' := [some (vR 0), some (vI ((n : Nat) : Int)), some (vI ((fr : Nat) : Int)), some (vI ((to : Nat) : Int)), some (vI (((μ.1 3 k :: s).length : Nat) : Int)), some (vI (((k + 1) : Nat) : Int))]) (rfl) ?_
            exact ih (k + 1) (μ.1 3 k :: s) μ1 (by omega) (by omega) (by rw [if_pos (by omega)] at hok2; exact hok2) (by simp only [List.length_cons]; omega) ⟨by rw [e_μ1]; exact mst_eq, Rep.of hr (fun i hi => by rw [e_μ1]; exact mst_ni (by omega))⟩ (by rw [e_μ1]; exact hS.mst rfl) (lim.cons (hl.mono (by omega)) (by omega) (by omega)) (by rw [← hF, show evR (μ.1 2) (μ.1 3) (μ.1 9) (c + 1) k s = evR (μ.1 2) (μ.1 3) (μ.1 9) c (k + 1) (ev1 (μ.1 9) s (μ.1 2 k, μ.1 3 k)) from rfl]; simp [ev1, c58])
        · refine aw_aload_n hO dX12_workOut_34 rfl rfl ?_
          refine gM_code hO dX12_workOut_35 rfl ?_
          refine aw_iload hO dX12_workOut_38 rfl rfl ?_
          refine aw_ialdn (N := 2600) (i := k) hO dX12_workOut_40 rfl (by decide) rfl (by decide) (by omega) (by omega) ?_
          refine aw_cg (hS.1 2 k rfl) ?_
          refine aw_iconst hO dX12_workOut_41 rfl ?_
          refine aw_icmp_ne (tgt := 90) hO dX12_workOut_42 rfl rfl ⟨by omega, by omega⟩ (inRlit _) (fun c42 => ?_) (fun c42 => ?_)
          · refine aw_aload_n hO dX12_workOut_90 rfl rfl ?_
            refine gM_code hO dX12_workOut_91 rfl ?_
            refine aw_iload hO dX12_workOut_94 rfl rfl ?_
            refine aw_ialdn (N := 2600) (i := k) hO dX12_workOut_96 rfl (by decide) rfl (by decide) (by omega) (by omega) ?_
            refine aw_cg (hS.1 2 k rfl) ?_
            refine aw_bipush hO dX12_workOut_97 rfl (by decide) (by decide) ?_
            refine aw_icmp_ne (tgt := 125) hO dX12_workOut_99 rfl rfl ⟨by omega, by omega⟩ (inRlit _) (fun c99 => ?_) (fun c99 => ?_)
            · obtain ⟨b, a, r, hs⟩ : ∃ b a r, s = b :: a :: r := by
                have h33 := h3 (by omega)
                cases s with
                | nil => exact absurd h33 (by simp)
                | cons b t => cases t with
                  | nil => exact absurd h33 (by simp)
                  | cons a r => exact ⟨b, a, r, rfl⟩
              have hlen : s.length = r.length + 2 := by rw [hs]; rfl
              have hrb : m.1 10 (r.length + 1) = b := by rw [hs] at hr; exact hr.1
              have hra : m.1 10 r.length = a := by rw [hs] at hr; exact hr.2.1
              have hla := hl a (by rw [hs]; simp)
              have hlb := hl b (by rw [hs]; exact List.mem_cons_self)
              refine aw_iinc (ls' := [some (vR 0), some (vI ((n : Nat) : Int)), some (vI ((fr : Nat) : Int)), some (vI ((to : Nat) : Int)), some (vI (((s.length : Nat) : Int) + (-1))), some (vI ((k : Nat) : Int))]) hO dX12_workOut_125 rfl rfl rfl rfl ?_
              refine aw_aload_n hO dX12_workOut_128 rfl rfl ?_
              refine gM_stack hO dX12_workOut_129 rfl ?_
              refine aw_iload hO dX12_workOut_132 rfl rfl ?_
              refine aw_iconst hO dX12_workOut_134 rfl ?_
              refine aw_isub hO dX12_workOut_135 rfl ?_
              refine aw_aload_n hO dX12_workOut_136 rfl rfl ?_
              refine gM_code hO dX12_workOut_137 rfl ?_
              refine aw_iload hO dX12_workOut_140 rfl rfl ?_
              refine aw_ialdn (N := 2600) (i := k) hO dX12_workOut_142 rfl (by decide) rfl (by decide) (by omega) (by omega) ?_
              refine aw_cg (hS.1 2 k rfl) ?_
              refine aw_aload_n hO dX12_workOut_143 rfl rfl ?_
              refine gM_stack hO dX12_workOut_144 rfl ?_
              refine aw_iload hO dX12_workOut_147 rfl rfl ?_
              refine aw_iconst hO dX12_workOut_149 rfl ?_
              refine aw_isub hO dX12_workOut_150 rfl ?_
              refine aw_ialdn (N := 80) (i := r.length) hO dX12_workOut_151 rfl (by decide) rfl (by decide) (by omega) (by omega) ?_
              refine aw_cg hra ?_
              refine aw_i2l hO dX12_workOut_152 rfl ⟨by omega, by omega⟩ ?_
              refine aw_aload_n hO dX12_workOut_153 rfl rfl ?_
              refine gM_stack hO dX12_workOut_154 rfl ?_
              refine aw_iload hO dX12_workOut_157 rfl rfl ?_
              refine aw_ialdn (N := 80) (i := (r.length + 1)) hO dX12_workOut_159 rfl (by decide) rfl (by decide) (by omega) (by omega) ?_
              refine aw_cg hrb ?_
              refine aw_i2l hO dX12_workOut_160 rfl ⟨by omega, by omega⟩ ?_
              refine aw_callSI (as := [vI (μ.1 2 k), vL a, vL b]) (st := [vI ((((s.length : Nat) : Int) + (-1)) - 1), vR 10]) hO dX12_workOut_161 rfl (lw_t7 124 rfl rfl) kX12_worked (ctM_worked m (c := (μ.1 2 k)) (a := a) (b := b) (by omega) (by omega) (by omega) (by omega) (by omega) (by omega)) (by decide) rfl rfl rfl (Nat.le_of_ble_eq_true rfl) ?_
              refine aw_iastn (N := 80) (i := r.length) hO dX12_workOut_164 rfl (by decide) rfl (by decide) (by omega) (by omega) ?_
              refine aw_mm (fun μ2 e_μ2 => ?_)
              refine aw_iinc (ls' := [some (vR 0), some (vI ((n : Nat) : Int)), some (vI ((fr : Nat) : Int)), some (vI ((to : Nat) : Int)), some (vI (((s.length : Nat) : Int) + (-1))), some (vI (((k : Nat) : Int) + 1))]) hO dX12_workOut_165 rfl rfl rfl rfl ?_
              refine aw_lsq (ls' := [some (vR 0), some (vI ((n : Nat) : Int)), some (vI ((fr : Nat) : Int)), some (vI ((to : Nat) : Int)), some (vI (((s.length : Nat) : Int) + (-1))), some (vI (((k + 1) : Nat) : Int))]) rfl ?_
              refine aw_goto (tgt := 12) hO dX12_workOut_168 rfl ?_
              refine aw_lsq (ls' := [some (vR 0), some (vI ((n : Nat) : Int)), some (vI ((fr : Nat) : Int)), some (vI ((to : Nat) : Int)), some (vI (((wkd (μ.1 2 k) a b :: r).length : Nat) : Int)), some (vI (((k + 1) : Nat) : Int))]) (by rw [show ((s.length : Nat) : Int) + (-1) = ((((wkd (μ.1 2 k) a b :: r)).length : Nat) : Int) by simp only [List.length_cons]; omega]) ?_
              exact ih (k + 1) (wkd (μ.1 2 k) a b :: r) μ2 (by omega) (by omega) (by rw [if_neg (by omega), if_neg c99, hlen] at hok2; exact hok2) (by simp only [List.length_cons]; omega) ⟨by rw [e_μ2]; exact mst_eq, Rep.of (by rw [hs] at hr; exact hr.2.2) (fun i hi => by rw [e_μ2]; exact mst_ni (by omega))⟩ (by rw [e_μ2]; exact hS.mst rfl) (lim.cons ((show lim _ r from fun x hx => hl x (by rw [hs]; exact List.mem_cons_of_mem _ (List.mem_cons_of_mem _ hx))).mono (by omega)) (by have := wkd_rng (μ.1 2 k) a b; omega) (by have := wkd_rng (μ.1 2 k) a b; omega)) (by rw [← hF, show evR (μ.1 2) (μ.1 3) (μ.1 9) (c + 1) k s = evR (μ.1 2) (μ.1 3) (μ.1 9) c (k + 1) (ev1 (μ.1 9) s (μ.1 2 k, μ.1 3 k)) from rfl, hs]; simp [ev1, c31, c42, c99])
            · obtain ⟨a, r, hs⟩ : ∃ a r, s = a :: r := by
                cases s with
                | nil => exact absurd (h2 c99) (by simp)
                | cons a r => exact ⟨a, r, rfl⟩
              have hlen : s.length = r.length + 1 := by rw [hs]; rfl
              have hra : m.1 10 r.length = a := by rw [hs] at hr; exact hr.1
              have hla := hl a (by rw [hs]; exact List.mem_cons_self)
              refine aw_aload_n hO dX12_workOut_102 rfl rfl ?_
              refine gM_stack hO dX12_workOut_103 rfl ?_
              refine aw_iload hO dX12_workOut_106 rfl rfl ?_
              refine aw_iconst hO dX12_workOut_108 rfl ?_
              refine aw_isub hO dX12_workOut_109 rfl ?_
              refine aw_iconst hO dX12_workOut_110 rfl ?_
              refine aw_aload_n hO dX12_workOut_111 rfl rfl ?_
              refine gM_stack hO dX12_workOut_112 rfl ?_
              refine aw_iload hO dX12_workOut_115 rfl rfl ?_
              refine aw_iconst hO dX12_workOut_117 rfl ?_
              refine aw_isub hO dX12_workOut_118 rfl ?_
              refine aw_ialdn (N := 80) (i := r.length) hO dX12_workOut_119 rfl (by decide) rfl (by decide) (by omega) (by omega) ?_
              refine aw_cg hra ?_
              refine aw_isub hO dX12_workOut_120 rfl ?_
              refine aw_iastn (N := 80) (i := r.length) hO dX12_workOut_121 rfl (by decide) rfl (by decide) (by omega) (by omega) ?_
              refine aw_mm (fun μ3 e_μ3 => ?_)
              refine aw_goto (tgt := 165) hO dX12_workOut_122 rfl ?_
              refine aw_iinc (ls' := [some (vR 0), some (vI ((n : Nat) : Int)), some (vI ((fr : Nat) : Int)), some (vI ((to : Nat) : Int)), some (vI ((s.length : Nat) : Int)), some (vI (((k : Nat) : Int) + 1))]) hO dX12_workOut_165 rfl rfl rfl rfl ?_
              refine aw_lsq (ls' := [some (vR 0), some (vI ((n : Nat) : Int)), some (vI ((fr : Nat) : Int)), some (vI ((to : Nat) : Int)), some (vI ((s.length : Nat) : Int)), some (vI (((k + 1) : Nat) : Int))]) rfl ?_
              refine aw_goto (tgt := 12) hO dX12_workOut_168 rfl ?_
              refine aw_lsq (ls' := [some (vR 0), some (vI ((n : Nat) : Int)), some (vI ((fr : Nat) : Int)), some (vI ((to : Nat) : Int)), some (vI ((((1 - a) :: r).length : Nat) : Int)), some (vI (((k + 1) : Nat) : Int))]) (by rw [hlen]; rfl) ?_
              exact ih (k + 1) ((1 - a) :: r) μ3 (by omega) (by omega) (by simp only [c99] at hok2; simpa [hlen] using hok2) (by simp only [List.length_cons]; omega) ⟨by rw [e_μ3]; exact mst_eq, Rep.of (by rw [hs] at hr; exact hr.2) (fun i hi => by rw [e_μ3]; exact mst_ni (by omega))⟩ (by rw [e_μ3]; exact hS.mst rfl) (lim.cons ((show lim _ r from fun x hx => hl x (by rw [hs]; exact List.mem_cons_of_mem _ hx)).mono (by omega)) (by omega) (by omega)) (by rw [← hF, show evR (μ.1 2) (μ.1 3) (μ.1 9) (c + 1) k s = evR (μ.1 2) (μ.1 3) (μ.1 9) c (k + 1) (ev1 (μ.1 9) s (μ.1 2 k, μ.1 3 k)) from rfl, hs]; simp [ev1, c99])
          · have hlen := h1 (by omega)
            have hv : 0 ≤ μ.1 3 k ∧ μ.1 3 k ≤ 5 := by unfold tokOk at ht; dsimp only at ht; omega
            refine aw_aload_n hO dX12_workOut_45 rfl rfl ?_
            refine gM_stack hO dX12_workOut_46 rfl ?_
            refine aw_iload hO dX12_workOut_49 rfl rfl ?_
            refine aw_aload_n hO dX12_workOut_51 rfl rfl ?_
            refine gM_code hO dX12_workOut_52 rfl ?_
            refine aw_iload hO dX12_workOut_55 rfl rfl ?_
            refine aw_ialdn (N := 2600) (i := k) hO dX12_workOut_57 rfl (by decide) rfl (by decide) (by omega) (by omega) ?_
            refine aw_cg (hS.1 2 k rfl) ?_
            refine aw_if_ne (tgt := 71) hO dX12_workOut_58 rfl rfl ⟨by omega, by omega⟩ (fun c58 => ?_) (fun c58 => ?_)
            · refine aw_aload_n hO dX12_workOut_71 rfl rfl ?_
              refine gM_letters hO dX12_workOut_72 rfl ?_
              refine aw_aload_n hO dX12_workOut_75 rfl rfl ?_
              refine gM_value hO dX12_workOut_76 rfl ?_
              refine aw_iload hO dX12_workOut_79 rfl rfl ?_
              refine aw_ialdn (N := 2600) (i := k) hO dX12_workOut_81 rfl (by decide) rfl (by decide) (by omega) (by omega) ?_
              refine aw_cg (hS.1 3 k rfl) ?_
              refine aw_ialdn (N := 6) (i := (μ.1 3 k).toNat) hO dX12_workOut_82 rfl (by decide) rfl (by decide) (Int.toNat_of_nonneg (by omega)).symm (by omega) ?_
              refine aw_cg (hS.1 9 (μ.1 3 k).toNat rfl) ?_
              refine aw_iastn (N := 80) (i := s.length) hO dX12_workOut_83 rfl (by decide) rfl (by decide) (by omega) (by omega) ?_
              refine aw_mm (fun μ4 e_μ4 => ?_)
              refine aw_iinc (ls' := [some (vR 0), some (vI ((n : Nat) : Int)), some (vI ((fr : Nat) : Int)), some (vI ((to : Nat) : Int)), some (vI (((s.length : Nat) : Int) + 1)), some (vI ((k : Nat) : Int))]) hO dX12_workOut_84 rfl rfl rfl rfl ?_
              refine aw_lsq (ls' := [some (vR 0), some (vI ((n : Nat) : Int)), some (vI ((fr : Nat) : Int)), some (vI ((to : Nat) : Int)), some (vI (((s.length + 1) : Nat) : Int)), some (vI ((k : Nat) : Int))]) rfl ?_
              refine aw_goto (tgt := 165) hO dX12_workOut_87 rfl ?_
              refine aw_iinc (ls' := [some (vR 0), some (vI ((n : Nat) : Int)), some (vI ((fr : Nat) : Int)), some (vI ((to : Nat) : Int)), some (vI (((s.length + 1) : Nat) : Int)), some (vI (((k : Nat) : Int) + 1))]) hO dX12_workOut_165 rfl rfl rfl rfl ?_
              refine aw_lsq (ls' := [some (vR 0), some (vI ((n : Nat) : Int)), some (vI ((fr : Nat) : Int)), some (vI ((to : Nat) : Int)), some (vI (((s.length + 1) : Nat) : Int)), some (vI (((k + 1) : Nat) : Int))]) rfl ?_
              refine aw_goto (tgt := 12) hO dX12_workOut_168 rfl ?_
              refine aw_lsq (ls' := [some (vR 0), some (vI ((n : Nat) : Int)), some (vI ((fr : Nat) : Int)), some (vI ((to : Nat) : Int)), some (vI (((μ.1 9 (μ.1 3 k).toNat :: s).length : Nat) : Int)), some (vI (((k + 1) : Nat) : Int))]) (rfl) ?_
              exact ih (k + 1) (μ.1 9 (μ.1 3 k).toNat :: s) μ4 (by omega) (by omega) (by rw [if_pos (by omega)] at hok2; exact hok2) (by simp only [List.length_cons]; omega) ⟨by rw [e_μ4]; exact mst_eq, Rep.of hr (fun i hi => by rw [e_μ4]; exact mst_ni (by omega))⟩ (by rw [e_μ4]; exact hS.mst rfl) (lim.cons (hl.mono (by omega)) (by have := hlt (μ.1 3 k).toNat (by omega); omega) (by have := hlt (μ.1 3 k).toNat (by omega); omega)) (by rw [← hF, show evR (μ.1 2) (μ.1 3) (μ.1 9) (c + 1) k s = evR (μ.1 2) (μ.1 3) (μ.1 9) c (k + 1) (ev1 (μ.1 9) s (μ.1 2 k, μ.1 3 k)) from rfl]; simp [ev1, c42])
            · exact absurd c58 (by omega)
  refine aw_iconst hO dX12_workOut_0 rfl ?_
  refine aw_istore (ls' := [some (vR 0), some (vI ((n : Nat) : Int)), some (vI ((fr : Nat) : Int)), some (vI ((to : Nat) : Int)), some (vI 0), none]) hO dX12_workOut_1 rfl (Nat.le_of_ble_eq_true rfl) rfl rfl ?_
  refine aw_sipush hO dX12_workOut_3 rfl (by decide) (by decide) ?_
  refine aw_iload_n hO dX12_workOut_6 rfl rfl ?_
  refine aw_imul hO dX12_workOut_7 rfl ?_
  refine aw_iload_n hO dX12_workOut_8 rfl rfl ?_
  refine aw_iadd hO dX12_workOut_9 rfl ?_
  refine aw_istore (ls' := [some (vR 0), some (vI ((n : Nat) : Int)), some (vI ((fr : Nat) : Int)), some (vI ((to : Nat) : Int)), some (vI 0), some (vI ((520 * ((n : Nat) : Int)) + ((fr : Nat) : Int)))]) hO dX12_workOut_10 rfl (Nat.le_of_ble_eq_true rfl) rfl rfl ?_
  refine aw_lsq (ls' := [some (vR 0), some (vI ((n : Nat) : Int)), some (vI ((fr : Nat) : Int)), some (vI ((to : Nat) : Int)), some (vI ((([] : List Int).length : Nat) : Int)), some (vI (((520 * n + fr) : Nat) : Int))]) rfl ?_
  exact lp (to - fr) (520 * n + fr) [] μ (by omega) (by omega) hok (by decide) trivial Sc.rf (fun a ha => by cases ha) rfl
theorem dX12_worthOf_0 : decode cX12_worthOf 0 = .ok (.sipush 140, 3) := by decide +kernel
theorem dX12_worthOf_3 : decode cX12_worthOf 3 = .ok (.iload_n 1, 1) := by decide +kernel
theorem dX12_worthOf_4 : decode cX12_worthOf 4 = .ok (.imul, 1) := by decide +kernel
theorem dX12_worthOf_5 : decode cX12_worthOf 5 = .ok (.istore_n 2, 1) := by decide +kernel
theorem dX12_worthOf_6 : decode cX12_worthOf 6 = .ok (.iload_n 2, 1) := by decide +kernel
theorem dX12_worthOf_7 : decode cX12_worthOf 7 = .ok (.sipush 140, 3) := by decide +kernel
theorem dX12_worthOf_10 : decode cX12_worthOf 10 = .ok (.iload_n 1, 1) := by decide +kernel
theorem dX12_worthOf_11 : decode cX12_worthOf 11 = .ok (.imul, 1) := by decide +kernel
theorem dX12_worthOf_12 : decode cX12_worthOf 12 = .ok (.aload_n 0, 1) := by decide +kernel
theorem dX12_worthOf_13 : decode cX12_worthOf 13 = .ok (.getfield 22, 3) := by decide +kernel
theorem dX12_worthOf_16 : decode cX12_worthOf 16 = .ok (.iload_n 1, 1) := by decide +kernel
theorem dX12_worthOf_17 : decode cX12_worthOf 17 = .ok (.iaload, 1) := by decide +kernel
theorem dX12_worthOf_18 : decode cX12_worthOf 18 = .ok (.iadd, 1) := by decide +kernel
theorem dX12_worthOf_19 : decode cX12_worthOf 19 = .ok (.if_icmp .ge 62, 3) := by decide +kernel
theorem dX12_worthOf_22 : decode cX12_worthOf 22 = .ok (.aload_n 0, 1) := by decide +kernel
theorem dX12_worthOf_23 : decode cX12_worthOf 23 = .ok (.getfield 25, 3) := by decide +kernel
theorem dX12_worthOf_26 : decode cX12_worthOf 26 = .ok (.iload_n 2, 1) := by decide +kernel
theorem dX12_worthOf_27 : decode cX12_worthOf 27 = .ok (.iaload, 1) := by decide +kernel
theorem dX12_worthOf_28 : decode cX12_worthOf 28 = .ok (.aload_n 0, 1) := by decide +kernel
theorem dX12_worthOf_29 : decode cX12_worthOf 29 = .ok (.getfield 28, 3) := by decide +kernel
theorem dX12_worthOf_32 : decode cX12_worthOf 32 = .ok (.iload_n 2, 1) := by decide +kernel
theorem dX12_worthOf_33 : decode cX12_worthOf 33 = .ok (.iaload, 1) := by decide +kernel
theorem dX12_worthOf_34 : decode cX12_worthOf 34 = .ok (.if_icmp .eq 23, 3) := by decide +kernel
theorem dX12_worthOf_37 : decode cX12_worthOf 37 = .ok (.aload_n 0, 1) := by decide +kernel
theorem dX12_worthOf_38 : decode cX12_worthOf 38 = .ok (.iload_n 1, 1) := by decide +kernel
theorem dX12_worthOf_39 : decode cX12_worthOf 39 = .ok (.aload_n 0, 1) := by decide +kernel
theorem dX12_worthOf_40 : decode cX12_worthOf 40 = .ok (.getfield 25, 3) := by decide +kernel
theorem dX12_worthOf_43 : decode cX12_worthOf 43 = .ok (.iload_n 2, 1) := by decide +kernel
theorem dX12_worthOf_44 : decode cX12_worthOf 44 = .ok (.iaload, 1) := by decide +kernel
theorem dX12_worthOf_45 : decode cX12_worthOf 45 = .ok (.aload_n 0, 1) := by decide +kernel
theorem dX12_worthOf_46 : decode cX12_worthOf 46 = .ok (.getfield 28, 3) := by decide +kernel
theorem dX12_worthOf_49 : decode cX12_worthOf 49 = .ok (.iload_n 2, 1) := by decide +kernel
theorem dX12_worthOf_50 : decode cX12_worthOf 50 = .ok (.iaload, 1) := by decide +kernel
theorem dX12_worthOf_51 : decode cX12_worthOf 51 = .ok (.invokevirtual 201, 3) := by decide +kernel
theorem dX12_worthOf_54 : decode cX12_worthOf 54 = .ok (.ifCond .eq 21, 3) := by decide +kernel
theorem dX12_worthOf_57 : decode cX12_worthOf 57 = .ok (.aload_n 0, 1) := by decide +kernel
theorem dX12_worthOf_58 : decode cX12_worthOf 58 = .ok (.iload_n 1, 1) := by decide +kernel
theorem dX12_worthOf_59 : decode cX12_worthOf 59 = .ok (.aload_n 0, 1) := by decide +kernel
theorem dX12_worthOf_60 : decode cX12_worthOf 60 = .ok (.getfield 28, 3) := by decide +kernel
theorem dX12_worthOf_63 : decode cX12_worthOf 63 = .ok (.iload_n 2, 1) := by decide +kernel
theorem dX12_worthOf_64 : decode cX12_worthOf 64 = .ok (.iaload, 1) := by decide +kernel
theorem dX12_worthOf_65 : decode cX12_worthOf 65 = .ok (.aload_n 0, 1) := by decide +kernel
theorem dX12_worthOf_66 : decode cX12_worthOf 66 = .ok (.getfield 31, 3) := by decide +kernel
theorem dX12_worthOf_69 : decode cX12_worthOf 69 = .ok (.iload_n 2, 1) := by decide +kernel
theorem dX12_worthOf_70 : decode cX12_worthOf 70 = .ok (.iaload, 1) := by decide +kernel
theorem dX12_worthOf_71 : decode cX12_worthOf 71 = .ok (.invokevirtual 201, 3) := by decide +kernel
theorem dX12_worthOf_74 : decode cX12_worthOf 74 = .ok (.ireturn, 1) := by decide +kernel
theorem dX12_worthOf_75 : decode cX12_worthOf 75 = .ok (.iinc 2 1, 3) := by decide +kernel
theorem dX12_worthOf_78 : decode cX12_worthOf 78 = .ok (.goto (-72), 3) := by decide +kernel
theorem dX12_worthOf_81 : decode cX12_worthOf 81 = .ok (.iconst 0, 1) := by decide +kernel
theorem dX12_worthOf_82 : decode cX12_worthOf 82 = .ok (.ireturn, 1) := by decide +kernel
set_option maxHeartbeats 4000000 in
set_option maxRecDepth 100000 in
theorem ctM_worthOf (μ : Mm) {n : Nat} (hn : n ≤ 4) (hV : LawV μ n) (hlt : ∀ i, i < 6 → -1000000 ≤ μ.1 9 i ∧ μ.1 9 i ≤ 1000000) : CtE PM 4 yX12_worthOf cX12_worthOf 3 (some .int) [vR 0, vI ((n : Nat) : Int)] μ (fun v m => (v = worthM μ n (μ.1 9) (μ.1 5 n).toNat (140 * n) ∧ -1000520 ≤ v ∧ v ≤ 1000520) ∧ Sc s10 μ m) := by
  refine ct_intro [some (vR 0), some (vI ((n : Nat) : Int)), none] RX12 (by decide) rfl XM rfl (Nat.le_of_ble_eq_true rfl) (fun K hO => ?_)
  have hcl := hV.1
  have lp : ∀ (c : Nat) (j : Nat) (m : Mm), ((j : Int) + c = 140 * n + μ.1 5 n) → (140 * n ≤ j) → (Sc s10 μ m) → (worthM μ n (μ.1 9) (μ.1 5 n).toNat (140 * n) = worthM μ n (μ.1 9) c j) → AW K 6 [some (vR 0), some (vI ((n : Nat) : Int)), some (vI ((j : Nat) : Int))] [] m := by
    intro c
    induction c with
    | zero =>
      intro j m hj hjn hS hF
      replace hF := hF.symm
      refine aw_iload_n hO dX12_worthOf_6 rfl rfl ?_
      refine aw_sipush hO dX12_worthOf_7 rfl (by decide) (by decide) ?_
      refine aw_iload_n hO dX12_worthOf_10 rfl rfl ?_
      refine aw_imul hO dX12_worthOf_11 rfl ?_
      refine aw_aload_n hO dX12_worthOf_12 rfl rfl ?_
      refine gM_clauses hO dX12_worthOf_13 rfl ?_
      refine aw_iload_n hO dX12_worthOf_16 rfl rfl ?_
      refine aw_ialdn (N := 5) (i := n) hO dX12_worthOf_17 rfl (by decide) rfl (by decide) (by omega) (by omega) ?_
      refine aw_cg (hS.1 5 n rfl) ?_
      refine aw_iadd hO dX12_worthOf_18 rfl ?_
      refine aw_icmp_ge (tgt := 81) hO dX12_worthOf_19 rfl rfl (inRn (by omega)) ⟨by omega, by omega⟩ (fun c19 => ?_) (fun c19 => ?_)
      · refine aw_iconst hO dX12_worthOf_81 rfl ?_
        refine aw_iret hO dX12_worthOf_82 ?_
        exact ⟨_, rfl, ⟨hF, by omega, by omega⟩, hS⟩
      · exact absurd c19 (by omega)
    | succ c ih =>
      intro j m hj hjn hS hF
      rw [worthM] at hF
      refine aw_iload_n hO dX12_worthOf_6 rfl rfl ?_
      refine aw_sipush hO dX12_worthOf_7 rfl (by decide) (by decide) ?_
      refine aw_iload_n hO dX12_worthOf_10 rfl rfl ?_
      refine aw_imul hO dX12_worthOf_11 rfl ?_
      refine aw_aload_n hO dX12_worthOf_12 rfl rfl ?_
      refine gM_clauses hO dX12_worthOf_13 rfl ?_
      refine aw_iload_n hO dX12_worthOf_16 rfl rfl ?_
      refine aw_ialdn (N := 5) (i := n) hO dX12_worthOf_17 rfl (by decide) rfl (by decide) (by omega) (by omega) ?_
      refine aw_cg (hS.1 5 n rfl) ?_
      refine aw_iadd hO dX12_worthOf_18 rfl ?_
      refine aw_icmp_ge (tgt := 81) hO dX12_worthOf_19 rfl rfl (inRn (by omega)) ⟨by omega, by omega⟩ (fun c19 => ?_) (fun c19 => ?_)
      · exact absurd c19 (by omega)
      · obtain ⟨h6, h67, h78, h8, hok1, hok2⟩ := hV.2 j hjn (by omega)
        have e2 : m.1 2 = μ.1 2 := funext (fun i => hS.1 2 i rfl)
        have e3 : m.1 3 = μ.1 3 := funext (fun i => hS.1 3 i rfl)
        have e9 : m.1 9 = μ.1 9 := funext (fun i => hS.1 9 i rfl)
        refine aw_aload_n hO dX12_worthOf_22 rfl rfl ?_
        refine gM_testFrom hO dX12_worthOf_23 rfl ?_
        refine aw_iload_n hO dX12_worthOf_26 rfl rfl ?_
        refine aw_ialdn (N := 700) (i := j) hO dX12_worthOf_27 rfl (by decide) rfl (by decide) (by omega) (by omega) ?_
        refine aw_cg (hS.1 6 j rfl) ?_
        refine aw_aload_n hO dX12_worthOf_28 rfl rfl ?_
        refine gM_sumFrom hO dX12_worthOf_29 rfl ?_
        refine aw_iload_n hO dX12_worthOf_32 rfl rfl ?_
        refine aw_ialdn (N := 700) (i := j) hO dX12_worthOf_33 rfl (by decide) rfl (by decide) (by omega) (by omega) ?_
        refine aw_cg (hS.1 7 j rfl) ?_
        refine aw_icmp_eq (tgt := 57) hO dX12_worthOf_34 rfl rfl ⟨by omega, by omega⟩ ⟨by omega, by omega⟩ (fun c34 => ?_) (fun c34 => ?_)
        · refine aw_aload_n hO dX12_worthOf_57 rfl rfl ?_
          refine aw_iload_n hO dX12_worthOf_58 rfl rfl ?_
          refine aw_aload_n hO dX12_worthOf_59 rfl rfl ?_
          refine gM_sumFrom hO dX12_worthOf_60 rfl ?_
          refine aw_iload_n hO dX12_worthOf_63 rfl rfl ?_
          refine aw_ialdn (N := 700) (i := j) hO dX12_worthOf_64 rfl (by decide) rfl (by decide) (by omega) (by omega) ?_
          refine aw_cg (hS.1 7 j rfl) ?_
          refine aw_aload_n hO dX12_worthOf_65 rfl rfl ?_
          refine gM_sumTo hO dX12_worthOf_66 rfl ?_
          refine aw_iload_n hO dX12_worthOf_69 rfl rfl ?_
          refine aw_ialdn (N := 700) (i := j) hO dX12_worthOf_70 rfl (by decide) rfl (by decide) (by omega) (by omega) ?_
          refine aw_cg (hS.1 8 j rfl) ?_
          refine aw_stq (st' := [vI (((μ.1 8 j).toNat : Nat) : Int), vI (((μ.1 7 j).toNat : Nat) : Int), vI ((n : Nat) : Int), vR 0]) (by rw [Int.toNat_of_nonneg (by omega), Int.toNat_of_nonneg (by omega)]) ?_
          refine aw_callVE (as := [vI ((n : Nat) : Int), vI (((μ.1 7 j).toNat : Nat) : Int), vI (((μ.1 8 j).toNat : Nat) : Int)]) (st := []) hO dX12_worthOf_71 rfl (lw_t7 120 rfl rfl) kX12_workOut (T := TX12) rfl (by decide) rfl (ctM_workOut m (n := n) (fr := (μ.1 7 j).toNat) (to := (μ.1 8 j).toNat) hn (by omega) (by omega) (by rw [e2, e3]; exact hok2) (by rw [e9]; exact hlt)) (by decide) rfl rfl rfl (Nat.le_of_ble_eq_true rfl) (fun v1 μ2 hq3 => ?_)
          obtain ⟨⟨e_v1, l_v1, r_v1⟩, s_μ2⟩ := hq3
          rw [e2, e3, e9] at e_v1
          have hS_μ2 := hS.tr s_μ2
          refine aw_iret hO dX12_worthOf_74 ?_
          exact ⟨_, rfl, ⟨by rw [hF, if_pos (Or.inl c34)]; exact e_v1, l_v1, r_v1⟩, hS_μ2⟩
        · refine aw_aload_n hO dX12_worthOf_37 rfl rfl ?_
          refine aw_iload_n hO dX12_worthOf_38 rfl rfl ?_
          refine aw_aload_n hO dX12_worthOf_39 rfl rfl ?_
          refine gM_testFrom hO dX12_worthOf_40 rfl ?_
          refine aw_iload_n hO dX12_worthOf_43 rfl rfl ?_
          refine aw_ialdn (N := 700) (i := j) hO dX12_worthOf_44 rfl (by decide) rfl (by decide) (by omega) (by omega) ?_
          refine aw_cg (hS.1 6 j rfl) ?_
          refine aw_aload_n hO dX12_worthOf_45 rfl rfl ?_
          refine gM_sumFrom hO dX12_worthOf_46 rfl ?_
          refine aw_iload_n hO dX12_worthOf_49 rfl rfl ?_
          refine aw_ialdn (N := 700) (i := j) hO dX12_worthOf_50 rfl (by decide) rfl (by decide) (by omega) (by omega) ?_
          refine aw_cg (hS.1 7 j rfl) ?_
          refine aw_stq (st' := [vI (((μ.1 7 j).toNat : Nat) : Int), vI (((μ.1 6 j).toNat : Nat) : Int), vI ((n : Nat) : Int), vR 0]) (by rw [Int.toNat_of_nonneg (by omega), Int.toNat_of_nonneg (by omega)]) ?_
          refine aw_callVE (as := [vI ((n : Nat) : Int), vI (((μ.1 6 j).toNat : Nat) : Int), vI (((μ.1 7 j).toNat : Nat) : Int)]) (st := []) hO dX12_worthOf_51 rfl (lw_t7 120 rfl rfl) kX12_workOut (T := TX12) rfl (by decide) rfl (ctM_workOut m (n := n) (fr := (μ.1 6 j).toNat) (to := (μ.1 7 j).toNat) hn (by omega) (by omega) (by rw [e2, e3]; exact hok1 c34) (by rw [e9]; exact hlt)) (by decide) rfl rfl rfl (Nat.le_of_ble_eq_true rfl) (fun v4 μ5 hq6 => ?_)
          obtain ⟨⟨e_v4, l_v4, r_v4⟩, s_μ5⟩ := hq6
          rw [e2, e3, e9] at e_v4
          have hS_μ5 := hS.tr s_μ5
          refine aw_if_eq (tgt := 75) hO dX12_worthOf_54 rfl rfl ⟨by omega, by omega⟩ (fun c54 => ?_) (fun c54 => ?_)
          · refine aw_iinc (ls' := [some (vR 0), some (vI ((n : Nat) : Int)), some (vI (((j : Nat) : Int) + 1))]) hO dX12_worthOf_75 rfl rfl rfl rfl ?_
            refine aw_lsq (ls' := [some (vR 0), some (vI ((n : Nat) : Int)), some (vI (((j + 1) : Nat) : Int))]) rfl ?_
            refine aw_goto (tgt := 6) hO dX12_worthOf_78 rfl ?_
            refine aw_lsq (ls' := [some (vR 0), some (vI ((n : Nat) : Int)), some (vI (((j + 1) : Nat) : Int))]) rfl ?_
            exact ih (j + 1) μ5 (by omega) (by omega) hS_μ5 (by rw [hF, if_neg (fun q => q.elim c34 (fun q => q (by rw [← e_v4]; exact c54)))])
          · refine aw_aload_n hO dX12_worthOf_57 rfl rfl ?_
            refine aw_iload_n hO dX12_worthOf_58 rfl rfl ?_
            refine aw_aload_n hO dX12_worthOf_59 rfl rfl ?_
            refine gM_sumFrom hO dX12_worthOf_60 rfl ?_
            refine aw_iload_n hO dX12_worthOf_63 rfl rfl ?_
            refine aw_ialdn (N := 700) (i := j) hO dX12_worthOf_64 rfl (by decide) rfl (by decide) (by omega) (by omega) ?_
            refine aw_cg (hS_μ5.1 7 j rfl) ?_
            refine aw_aload_n hO dX12_worthOf_65 rfl rfl ?_
            refine gM_sumTo hO dX12_worthOf_66 rfl ?_
            refine aw_iload_n hO dX12_worthOf_69 rfl rfl ?_
            refine aw_ialdn (N := 700) (i := j) hO dX12_worthOf_70 rfl (by decide) rfl (by decide) (by omega) (by omega) ?_
            refine aw_cg (hS_μ5.1 8 j rfl) ?_
            have f2 : μ5.1 2 = μ.1 2 := funext (fun i => hS_μ5.1 2 i rfl)
            have f3 : μ5.1 3 = μ.1 3 := funext (fun i => hS_μ5.1 3 i rfl)
            have f9 : μ5.1 9 = μ.1 9 := funext (fun i => hS_μ5.1 9 i rfl)
            refine aw_stq (st' := [vI (((μ.1 8 j).toNat : Nat) : Int), vI (((μ.1 7 j).toNat : Nat) : Int), vI ((n : Nat) : Int), vR 0]) (by rw [Int.toNat_of_nonneg (by omega), Int.toNat_of_nonneg (by omega)]) ?_
            refine aw_callVE (as := [vI ((n : Nat) : Int), vI (((μ.1 7 j).toNat : Nat) : Int), vI (((μ.1 8 j).toNat : Nat) : Int)]) (st := []) hO dX12_worthOf_71 rfl (lw_t7 120 rfl rfl) kX12_workOut (T := TX12) rfl (by decide) rfl (ctM_workOut μ5 (n := n) (fr := (μ.1 7 j).toNat) (to := (μ.1 8 j).toNat) hn (by omega) (by omega) (by rw [f2, f3]; exact hok2) (by rw [f9]; exact hlt)) (by decide) rfl rfl rfl (Nat.le_of_ble_eq_true rfl) (fun v7 μ8 hq9 => ?_)
            obtain ⟨⟨e_v7, l_v7, r_v7⟩, s_μ8⟩ := hq9
            rw [f2, f3, f9] at e_v7
            have hS_μ8 := hS_μ5.tr s_μ8
            refine aw_iret hO dX12_worthOf_74 ?_
            exact ⟨_, rfl, ⟨by rw [hF, if_pos (Or.inr (by rw [← e_v4]; exact c54))]; exact e_v7, l_v7, r_v7⟩, hS_μ8⟩
  refine aw_sipush hO dX12_worthOf_0 rfl (by decide) (by decide) ?_
  refine aw_iload_n hO dX12_worthOf_3 rfl rfl ?_
  refine aw_imul hO dX12_worthOf_4 rfl ?_
  refine aw_istore_n (ls' := [some (vR 0), some (vI ((n : Nat) : Int)), some (vI (140 * ((n : Nat) : Int)))]) hO dX12_worthOf_5 rfl (Nat.le_of_ble_eq_true rfl) rfl rfl ?_
  refine aw_lsq (ls' := [some (vR 0), some (vI ((n : Nat) : Int)), some (vI (((140 * n) : Nat) : Int))]) rfl ?_
  exact lp (μ.1 5 n).toNat (140 * n) μ (by omega) (by omega) Sc.rf rfl
