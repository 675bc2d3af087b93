/-! ## what the class is asked (1) -/
theorem dX11_count_0 : decode cX11_count 0 = .ok (.iload_n 1, 1) := by decide +kernel
theorem dX11_count_1 : decode cX11_count 1 = .ok (.tableswitch 171 0 12 #[67, 75, 83, 88, 96, 101, 112, 122, 132, 142, 147, 155, 163], 67) := by decide +kernel
theorem dX11_count_68 : decode cX11_count 68 = .ok (.aload_n 0, 1) := by decide +kernel
theorem dX11_count_69 : decode cX11_count 69 = .ok (.getfield 41, 3) := by decide +kernel
theorem dX11_count_72 : decode cX11_count 72 = .ok (.getfield 138, 3) := by decide +kernel
theorem dX11_count_75 : decode cX11_count 75 = .ok (.ireturn, 1) := by decide +kernel
theorem dX11_count_76 : decode cX11_count 76 = .ok (.aload_n 0, 1) := by decide +kernel
theorem dX11_count_77 : decode cX11_count 77 = .ok (.getfield 41, 3) := by decide +kernel
theorem dX11_count_80 : decode cX11_count 80 = .ok (.getfield 315, 3) := by decide +kernel
theorem dX11_count_83 : decode cX11_count 83 = .ok (.ireturn, 1) := by decide +kernel
theorem dX11_count_84 : decode cX11_count 84 = .ok (.aload_n 0, 1) := by decide +kernel
theorem dX11_count_85 : decode cX11_count 85 = .ok (.getfield 98, 3) := by decide +kernel
theorem dX11_count_88 : decode cX11_count 88 = .ok (.ireturn, 1) := by decide +kernel
theorem dX11_count_89 : decode cX11_count 89 = .ok (.aload_n 0, 1) := by decide +kernel
theorem dX11_count_90 : decode cX11_count 90 = .ok (.getfield 10, 3) := by decide +kernel
theorem dX11_count_93 : decode cX11_count 93 = .ok (.getfield 117, 3) := by decide +kernel
theorem dX11_count_96 : decode cX11_count 96 = .ok (.ireturn, 1) := by decide +kernel
theorem dX11_count_97 : decode cX11_count 97 = .ok (.aload_n 0, 1) := by decide +kernel
theorem dX11_count_98 : decode cX11_count 98 = .ok (.getfield 102, 3) := by decide +kernel
theorem dX11_count_101 : decode cX11_count 101 = .ok (.ireturn, 1) := by decide +kernel
theorem dX11_count_102 : decode cX11_count 102 = .ok (.aload_n 0, 1) := by decide +kernel
theorem dX11_count_103 : decode cX11_count 103 = .ok (.getfield 48, 3) := by decide +kernel
theorem dX11_count_106 : decode cX11_count 106 = .ok (.getfield 158, 3) := by decide +kernel
theorem dX11_count_109 : decode cX11_count 109 = .ok (.bipush 6, 2) := by decide +kernel
theorem dX11_count_111 : decode cX11_count 111 = .ok (.iaload, 1) := by decide +kernel
theorem dX11_count_112 : decode cX11_count 112 = .ok (.ireturn, 1) := by decide +kernel
theorem dX11_count_113 : decode cX11_count 113 = .ok (.aload_n 0, 1) := by decide +kernel
theorem dX11_count_114 : decode cX11_count 114 = .ok (.getfield 48, 3) := by decide +kernel
theorem dX11_count_117 : decode cX11_count 117 = .ok (.getfield 158, 3) := by decide +kernel
theorem dX11_count_120 : decode cX11_count 120 = .ok (.iconst 0, 1) := by decide +kernel
theorem dX11_count_121 : decode cX11_count 121 = .ok (.iaload, 1) := by decide +kernel
theorem dX11_count_122 : decode cX11_count 122 = .ok (.ireturn, 1) := by decide +kernel
theorem dX11_count_123 : decode cX11_count 123 = .ok (.aload_n 0, 1) := by decide +kernel
theorem dX11_count_124 : decode cX11_count 124 = .ok (.getfield 48, 3) := by decide +kernel
theorem dX11_count_127 : decode cX11_count 127 = .ok (.getfield 158, 3) := by decide +kernel
theorem dX11_count_130 : decode cX11_count 130 = .ok (.iconst 1, 1) := by decide +kernel
theorem dX11_count_131 : decode cX11_count 131 = .ok (.iaload, 1) := by decide +kernel
theorem dX11_count_132 : decode cX11_count 132 = .ok (.ireturn, 1) := by decide +kernel
theorem dX11_count_133 : decode cX11_count 133 = .ok (.aload_n 0, 1) := by decide +kernel
theorem dX11_count_134 : decode cX11_count 134 = .ok (.getfield 48, 3) := by decide +kernel
theorem dX11_count_137 : decode cX11_count 137 = .ok (.getfield 158, 3) := by decide +kernel
theorem dX11_count_140 : decode cX11_count 140 = .ok (.iconst 2, 1) := by decide +kernel
theorem dX11_count_141 : decode cX11_count 141 = .ok (.iaload, 1) := by decide +kernel
theorem dX11_count_142 : decode cX11_count 142 = .ok (.ireturn, 1) := by decide +kernel
theorem dX11_count_143 : decode cX11_count 143 = .ok (.aload_n 0, 1) := by decide +kernel
theorem dX11_count_144 : decode cX11_count 144 = .ok (.getfield 105, 3) := by decide +kernel
theorem dX11_count_147 : decode cX11_count 147 = .ok (.ireturn, 1) := by decide +kernel
theorem dX11_count_148 : decode cX11_count 148 = .ok (.aload_n 0, 1) := by decide +kernel
theorem dX11_count_149 : decode cX11_count 149 = .ok (.getfield 90, 3) := by decide +kernel
theorem dX11_count_152 : decode cX11_count 152 = .ok (.getfield 294, 3) := by decide +kernel
theorem dX11_count_155 : decode cX11_count 155 = .ok (.ireturn, 1) := by decide +kernel
theorem dX11_count_156 : decode cX11_count 156 = .ok (.aload_n 0, 1) := by decide +kernel
theorem dX11_count_157 : decode cX11_count 157 = .ok (.getfield 48, 3) := by decide +kernel
theorem dX11_count_160 : decode cX11_count 160 = .ok (.invokevirtual 255, 3) := by decide +kernel
theorem dX11_count_163 : decode cX11_count 163 = .ok (.ireturn, 1) := by decide +kernel
theorem dX11_count_164 : decode cX11_count 164 = .ok (.aload_n 0, 1) := by decide +kernel
theorem dX11_count_165 : decode cX11_count 165 = .ok (.getfield 58, 3) := by decide +kernel
theorem dX11_count_168 : decode cX11_count 168 = .ok (.getfield 249, 3) := by decide +kernel
theorem dX11_count_171 : decode cX11_count 171 = .ok (.ireturn, 1) := by decide +kernel
theorem dX11_count_172 : decode cX11_count 172 = .ok (.ldc_w 258, 3) := by decide +kernel
theorem dX11_count_175 : decode cX11_count 175 = .ok (.ireturn, 1) := by decide +kernel
set_option maxRecDepth 100000 in
theorem gC_X11_41_0 {Q : Option AV → Mm → Prop} {K : KT} {cc : ByteArray} {nL d : Nat} {ret : Option FieldType} {pc n : Nat} {ls : List (Option AV)} {st : List AV} {μ : Mm} (hO : KOk PC Q K cc RX11 nL d ret) (hd : decode cc pc = .ok (.getfield 41, 3)) (hn : pc + 3 = n) (kk : AW K n ls (vR 25 :: st) μ) : AW K pc ls (vR 0 :: st) μ := aw_get (f := 4) hO hd hn okX11 (by decide) (lw_t2 49 rfl rfl) (by decide) rfl rfl rfl kk
set_option maxRecDepth 100000 in
theorem gC_X11_138_25 {Q : Option AV → Mm → Prop} {K : KT} {cc : ByteArray} {nL d : Nat} {ret : Option FieldType} {pc n : Nat} {ls : List (Option AV)} {st : List AV} {μ : Mm} (hO : KOk PC Q K cc RX11 nL d ret) (hd : decode cc pc = .ok (.getfield 138, 3)) (hn : pc + 3 = n) (kk : AW K n ls (vI (μ.1 25 1) :: st) μ) : AW K pc ls (vR 25 :: st) μ := aw_getN (f := 1) hO hd hn okX9 (by decide) (lw_t1n 81 rfl rfl) (by decide) rfl rfl rfl kk
set_option maxRecDepth 100000 in
theorem gC_X11_315_25 {Q : Option AV → Mm → Prop} {K : KT} {cc : ByteArray} {nL d : Nat} {ret : Option FieldType} {pc n : Nat} {ls : List (Option AV)} {st : List AV} {μ : Mm} (hO : KOk PC Q K cc RX11 nL d ret) (hd : decode cc pc = .ok (.getfield 315, 3)) (hn : pc + 3 = n) (kk : AW K n ls (vI (μ.1 25 2) :: st) μ) : AW K pc ls (vR 25 :: st) μ := aw_getN (f := 2) hO hd hn okX9 (by decide) (lw_t1n 89 rfl rfl) (by decide) rfl rfl rfl kk
set_option maxRecDepth 100000 in
theorem gC_X11_98_0 {Q : Option AV → Mm → Prop} {K : KT} {cc : ByteArray} {nL d : Nat} {ret : Option FieldType} {pc n : Nat} {ls : List (Option AV)} {st : List AV} {μ : Mm} (hO : KOk PC Q K cc RX11 nL d ret) (hd : decode cc pc = .ok (.getfield 98, 3)) (hn : pc + 3 = n) (kk : AW K n ls (vI (μ.1 0 13) :: st) μ) : AW K pc ls (vR 0 :: st) μ := aw_get (f := 13) hO hd hn okX11 (by decide) (lw_t2 58 rfl rfl) (by decide) rfl rfl rfl kk
set_option maxRecDepth 100000 in
theorem gC_X11_10_0 {Q : Option AV → Mm → Prop} {K : KT} {cc : ByteArray} {nL d : Nat} {ret : Option FieldType} {pc n : Nat} {ls : List (Option AV)} {st : List AV} {μ : Mm} (hO : KOk PC Q K cc RX11 nL d ret) (hd : decode cc pc = .ok (.getfield 10, 3)) (hn : pc + 3 = n) (kk : AW K n ls (vR 1 :: st) μ) : AW K pc ls (vR 0 :: st) μ := aw_get (f := 0) hO hd hn okX11 (by decide) (lw_t2 45 rfl rfl) (by decide) rfl rfl rfl kk
set_option maxRecDepth 100000 in
theorem gC_X11_117_1 {Q : Option AV → Mm → Prop} {K : KT} {cc : ByteArray} {nL d : Nat} {ret : Option FieldType} {pc n : Nat} {ls : List (Option AV)} {st : List AV} {μ : Mm} (hO : KOk PC Q K cc RX11 nL d ret) (hd : decode cc pc = .ok (.getfield 117, 3)) (hn : pc + 3 = n) (kk : AW K n ls (vI (μ.1 1 2) :: st) μ) : AW K pc ls (vR 1 :: st) μ := aw_getN (f := 2) hO hd hn okX8 (by decide) (lw_t1n 44 rfl rfl) (by decide) rfl rfl rfl kk
set_option maxRecDepth 100000 in
theorem gC_X11_102_0 {Q : Option AV → Mm → Prop} {K : KT} {cc : ByteArray} {nL d : Nat} {ret : Option FieldType} {pc n : Nat} {ls : List (Option AV)} {st : List AV} {μ : Mm} (hO : KOk PC Q K cc RX11 nL d ret) (hd : decode cc pc = .ok (.getfield 102, 3)) (hn : pc + 3 = n) (kk : AW K n ls (vI (μ.1 0 14) :: st) μ) : AW K pc ls (vR 0 :: st) μ := aw_get (f := 14) hO hd hn okX11 (by decide) (lw_t2 59 rfl rfl) (by decide) rfl rfl rfl kk
set_option maxRecDepth 100000 in
theorem gC_X11_48_0 {Q : Option AV → Mm → Prop} {K : KT} {cc : ByteArray} {nL d : Nat} {ret : Option FieldType} {pc n : Nat} {ls : List (Option AV)} {st : List AV} {μ : Mm} (hO : KOk PC Q K cc RX11 nL d ret) (hd : decode cc pc = .ok (.getfield 48, 3)) (hn : pc + 3 = n) (kk : AW K n ls (vR 27 :: st) μ) : AW K pc ls (vR 0 :: st) μ := aw_get (f := 5) hO hd hn okX11 (by decide) (lw_t2 50 rfl rfl) (by decide) rfl rfl rfl kk
set_option maxRecDepth 100000 in
theorem gC_X11_158_27 {Q : Option AV → Mm → Prop} {K : KT} {cc : ByteArray} {nL d : Nat} {ret : Option FieldType} {pc n : Nat} {ls : List (Option AV)} {st : List AV} {μ : Mm} (hO : KOk PC Q K cc RX11 nL d ret) (hd : decode cc pc = .ok (.getfield 158, 3)) (hn : pc + 3 = n) (kk : AW K n ls (vR 28 :: st) μ) : AW K pc ls (vR 27 :: st) μ := aw_getN (f := 0) hO hd hn okX7 (by decide) (lw_t1n 154 rfl rfl) (by decide) rfl rfl rfl kk
set_option maxRecDepth 100000 in
theorem gC_X11_105_0 {Q : Option AV → Mm → Prop} {K : KT} {cc : ByteArray} {nL d : Nat} {ret : Option FieldType} {pc n : Nat} {ls : List (Option AV)} {st : List AV} {μ : Mm} (hO : KOk PC Q K cc RX11 nL d ret) (hd : decode cc pc = .ok (.getfield 105, 3)) (hn : pc + 3 = n) (kk : AW K n ls (vI (μ.1 0 15) :: st) μ) : AW K pc ls (vR 0 :: st) μ := aw_get (f := 15) hO hd hn okX11 (by decide) (lw_t2 60 rfl rfl) (by decide) rfl rfl rfl kk
set_option maxRecDepth 100000 in
theorem gC_X11_90_0 {Q : Option AV → Mm → Prop} {K : KT} {cc : ByteArray} {nL d : Nat} {ret : Option FieldType} {pc n : Nat} {ls : List (Option AV)} {st : List AV} {μ : Mm} (hO : KOk PC Q K cc RX11 nL d ret) (hd : decode cc pc = .ok (.getfield 90, 3)) (hn : pc + 3 = n) (kk : AW K n ls (vR 81 :: st) μ) : AW K pc ls (vR 0 :: st) μ := aw_get (f := 11) hO hd hn okX11 (by decide) (lw_t2 56 rfl rfl) (by decide) rfl rfl rfl kk
set_option maxRecDepth 100000 in
theorem gC_X11_294_81 {Q : Option AV → Mm → Prop} {K : KT} {cc : ByteArray} {nL d : Nat} {ret : Option FieldType} {pc n : Nat} {ls : List (Option AV)} {st : List AV} {μ : Mm} (hO : KOk PC Q K cc RX11 nL d ret) (hd : decode cc pc = .ok (.getfield 294, 3)) (hn : pc + 3 = n) (kk : AW K n ls (vI (μ.1 81 5) :: st) μ) : AW K pc ls (vR 81 :: st) μ := aw_getN (f := 5) hO hd hn okX2 (by decide) (lw_t2n 30 rfl rfl) (by decide) rfl rfl rfl kk
set_option maxRecDepth 100000 in
theorem gC_X11_58_0 {Q : Option AV → Mm → Prop} {K : KT} {cc : ByteArray} {nL d : Nat} {ret : Option FieldType} {pc n : Nat} {ls : List (Option AV)} {st : List AV} {μ : Mm} (hO : KOk PC Q K cc RX11 nL d ret) (hd : decode cc pc = .ok (.getfield 58, 3)) (hn : pc + 3 = n) (kk : AW K n ls (vR 31 :: st) μ) : AW K pc ls (vR 0 :: st) μ := aw_get (f := 7) hO hd hn okX11 (by decide) (lw_t2 52 rfl rfl) (by decide) rfl rfl rfl kk
set_option maxRecDepth 100000 in
theorem gC_X11_249_31 {Q : Option AV → Mm → Prop} {K : KT} {cc : ByteArray} {nL d : Nat} {ret : Option FieldType} {pc n : Nat} {ls : List (Option AV)} {st : List AV} {μ : Mm} (hO : KOk PC Q K cc RX11 nL d ret) (hd : decode cc pc = .ok (.getfield 249, 3)) (hn : pc + 3 = n) (kk : AW K n ls (vI (μ.1 31 1) :: st) μ) : AW K pc ls (vR 31 :: st) μ := aw_getN (f := 1) hO hd hn okX0 (by decide) (lw_t1n 168 rfl rfl) (by decide) rfl rfl rfl kk
set_option maxHeartbeats 4000000 in
set_option maxRecDepth 100000 in
theorem cP_count {μ ν : Mm} (h : Rel μ ν) {v : Int} (hv : InR v) : CtI PC 1 yX11_count cX11_count 2 (some .int) [vR 0, vI v] μ ((if v = 0 then ν.1 0 25 else (if v = 1 then ν.1 0 26 else (if v = 2 then ν.1 0 13 else (if v = 3 then ν.1 0 2 else (if v = 4 then ν.1 0 29 else (if v = 5 then ν.1 17 36 else (if v = 6 then ν.1 17 29 else (if v = 7 then ν.1 17 30 else (if v = 8 then ν.1 17 32 else (if v = 9 then ν.1 0 30 else (if v = 10 then ν.1 0 41 else (if v = 11 then ν.1 17 37 else (if v = 12 then ν.1 0 35 else (-1000000))))))))))))))) := by
  refine ct_intro [some (vR 0), some (vI v)] RX11 (by decide) rfl XCo rfl (Nat.le_of_ble_eq_true rfl) (fun K hO => ?_)
  obtain ⟨c, hc, hlc1, hlc2, hl3, hl4, hl5⟩ := h.L
  obtain ⟨N, hN, hN1, hN2, hN3⟩ := h.P
  obtain ⟨a, x, ha, hx, ha1, ha2, ha3, ha4⟩ := h.A
  have hnp := h.B.np
  have hnt := h.B.nt
  have hr := h.B.now.rest
  have hN15 := h.N.2.1
  obtain ⟨L, hL8, hL6, hL37, -⟩ := h.S.2.1
  have hL2 : L ≤ 2000 := by have := h.S.2.2.2.1; have := h.S.1.yr; omega
  refine aw_iload_n hO dX11_count_0 rfl rfl ?_
  by_cases hc0 : v = 0
  · refine aw_tableIn (tgt := 68) hO dX11_count_1 hv (by omega) (by omega) (by rw [hc0]; rfl) rfl ?_
    refine aw_aload_n hO dX11_count_68 rfl rfl ?_
    refine gC_X11_41_0 hO dX11_count_69 rfl ?_
    refine gC_X11_138_25 hO dX11_count_72 rfl ?_
    refine aw_cg h.JR.z.T.n ?_
    refine aw_iret hO dX11_count_75 ?_
    exact rI (by rw [if_pos hc0])
  by_cases hc1 : v = 1
  · refine aw_tableIn (tgt := 76) hO dX11_count_1 hv (by omega) (by omega) (by rw [hc1]; rfl) rfl ?_
    refine aw_aload_n hO dX11_count_76 rfl rfl ?_
    refine gC_X11_41_0 hO dX11_count_77 rfl ?_
    refine gC_X11_315_25 hO dX11_count_80 rfl ?_
    refine aw_cg h.JR.z.T.t ?_
    refine aw_iret hO dX11_count_83 ?_
    exact rI (by rw [if_neg hc0, if_pos hc1])
  by_cases hc2 : v = 2
  · refine aw_tableIn (tgt := 84) hO dX11_count_1 hv (by omega) (by omega) (by rw [hc2]; rfl) rfl ?_
    refine aw_aload_n hO dX11_count_84 rfl rfl ?_
    refine gC_X11_98_0 hO dX11_count_85 rfl ?_
    refine aw_cg hlc1 ?_
    refine aw_iret hO dX11_count_88 ?_
    exact rI (by rw [if_neg hc0, if_neg hc1, if_pos hc2, hlc2])
  by_cases hc3 : v = 3
  · refine aw_tableIn (tgt := 89) hO dX11_count_1 hv (by omega) (by omega) (by rw [hc3]; rfl) rfl ?_
    refine aw_aload_n hO dX11_count_89 rfl rfl ?_
    refine gC_X11_10_0 hO dX11_count_90 rfl ?_
    refine gC_X11_117_1 hO dX11_count_93 rfl ?_
    refine aw_cg hN1 ?_
    refine aw_iret hO dX11_count_96 ?_
    exact rI (by rw [if_neg hc0, if_neg hc1, if_neg hc2, if_pos hc3, hN2])
  by_cases hc4 : v = 4
  · refine aw_tableIn (tgt := 97) hO dX11_count_1 hv (by omega) (by omega) (by rw [hc4]; rfl) rfl ?_
    refine aw_aload_n hO dX11_count_97 rfl rfl ?_
    refine gC_X11_102_0 hO dX11_count_98 rfl ?_
    refine aw_cg hl4 ?_
    refine aw_iret hO dX11_count_101 ?_
    exact rI (by rw [if_neg hc0, if_neg hc1, if_neg hc2, if_neg hc3, if_pos hc4])
  by_cases hc5 : v = 5
  · refine aw_tableIn (tgt := 102) hO dX11_count_1 hv (by omega) (by omega) (by rw [hc5]; rfl) rfl ?_
    refine aw_aload_n hO dX11_count_102 rfl rfl ?_
    refine gC_X11_48_0 hO dX11_count_103 rfl ?_
    refine gC_X11_158_27 hO dX11_count_106 rfl ?_
    refine aw_bipush hO dX11_count_109 rfl (by decide) (by decide) ?_
    refine aw_ialdn (N := 98) (i := 6) hO dX11_count_111 rfl (by decide) rfl (by decide) rfl (by decide) ?_
    refine aw_cg h.JR.S.yr ?_
    refine aw_iret hO dX11_count_112 ?_
    exact rI (by rw [if_neg hc0, if_neg hc1, if_neg hc2, if_neg hc3, if_neg hc4, if_pos hc5])
  by_cases hc6 : v = 6
  · refine aw_tableIn (tgt := 113) hO dX11_count_1 hv (by omega) (by omega) (by rw [hc6]; rfl) rfl ?_
    refine aw_aload_n hO dX11_count_113 rfl rfl ?_
    refine gC_X11_48_0 hO dX11_count_114 rfl ?_
    refine gC_X11_158_27 hO dX11_count_117 rfl ?_
    refine aw_iconst hO dX11_count_120 rfl ?_
    refine aw_ialdn (N := 98) (i := 0) hO dX11_count_121 rfl (by decide) rfl (by decide) rfl (by decide) ?_
    refine aw_cg h.JR.S.sc.1 ?_
    refine aw_iret hO dX11_count_122 ?_
    exact rI (by rw [if_neg hc0, if_neg hc1, if_neg hc2, if_neg hc3, if_neg hc4, if_neg hc5, if_pos hc6])
  by_cases hc7 : v = 7
  · refine aw_tableIn (tgt := 123) hO dX11_count_1 hv (by omega) (by omega) (by rw [hc7]; rfl) rfl ?_
    refine aw_aload_n hO dX11_count_123 rfl rfl ?_
    refine gC_X11_48_0 hO dX11_count_124 rfl ?_
    refine gC_X11_158_27 hO dX11_count_127 rfl ?_
    refine aw_iconst hO dX11_count_130 rfl ?_
    refine aw_ialdn (N := 98) (i := 1) hO dX11_count_131 rfl (by decide) rfl (by decide) rfl (by decide) ?_
    refine aw_cg h.JR.S.sc.2.1 ?_
    refine aw_iret hO dX11_count_132 ?_
    exact rI (by rw [if_neg hc0, if_neg hc1, if_neg hc2, if_neg hc3, if_neg hc4, if_neg hc5, if_neg hc6, if_pos hc7])
  by_cases hc8 : v = 8
  · refine aw_tableIn (tgt := 133) hO dX11_count_1 hv (by omega) (by omega) (by rw [hc8]; rfl) rfl ?_
    refine aw_aload_n hO dX11_count_133 rfl rfl ?_
    refine gC_X11_48_0 hO dX11_count_134 rfl ?_
    refine gC_X11_158_27 hO dX11_count_137 rfl ?_
    refine aw_iconst hO dX11_count_140 rfl ?_
    refine aw_ialdn (N := 98) (i := 2) hO dX11_count_141 rfl (by decide) rfl (by decide) rfl (by decide) ?_
    refine aw_cg h.JR.S.sc.2.2.1 ?_
    refine aw_iret hO dX11_count_142 ?_
    exact rI (by rw [if_neg hc0, if_neg hc1, if_neg hc2, if_neg hc3, if_neg hc4, if_neg hc5, if_neg hc6, if_neg hc7, if_pos hc8])
  by_cases hc9 : v = 9
  · refine aw_tableIn (tgt := 143) hO dX11_count_1 hv (by omega) (by omega) (by rw [hc9]; rfl) rfl ?_
    refine aw_aload_n hO dX11_count_143 rfl rfl ?_
    refine gC_X11_105_0 hO dX11_count_144 rfl ?_
    refine aw_cg h.N.1 ?_
    refine aw_iret hO dX11_count_147 ?_
    exact rI (by rw [if_neg hc0, if_neg hc1, if_neg hc2, if_neg hc3, if_neg hc4, if_neg hc5, if_neg hc6, if_neg hc7, if_neg hc8, if_pos hc9])
  by_cases hc10 : v = 10
  · refine aw_tableIn (tgt := 148) hO dX11_count_1 hv (by omega) (by omega) (by rw [hc10]; rfl) rfl ?_
    refine aw_aload_n hO dX11_count_148 rfl rfl ?_
    refine gC_X11_90_0 hO dX11_count_149 rfl ?_
    refine gC_X11_294_81 hO dX11_count_152 rfl ?_
    refine aw_cg h.G.2.1 ?_
    refine aw_iret hO dX11_count_155 ?_
    exact rI (by rw [if_neg hc0, if_neg hc1, if_neg hc2, if_neg hc3, if_neg hc4, if_neg hc5, if_neg hc6, if_neg hc7, if_neg hc8, if_neg hc9, if_pos hc10])
  by_cases hc11 : v = 11
  · refine aw_tableIn (tgt := 156) hO dX11_count_1 hv (by omega) (by omega) (by rw [hc11]; rfl) rfl ?_
    refine aw_aload_n hO dX11_count_156 rfl rfl ?_
    refine gC_X11_48_0 hO dX11_count_157 rfl ?_
    refine aw_callVI (as := []) (st := []) hO dX11_count_160 rfl (lw_t4 121 rfl rfl) kX7_logLength (T := TX7) rfl (by decide) rfl (ctC_7_logLength μ sob27 hL8 hL2) (by decide) rfl rfl rfl (Nat.le_of_ble_eq_true rfl) ?_
    refine aw_iret hO dX11_count_163 ?_
    exact rI (by rw [if_neg hc0, if_neg hc1, if_neg hc2, if_neg hc3, if_neg hc4, if_neg hc5, if_neg hc6, if_neg hc7, if_neg hc8, if_neg hc9, if_neg hc10, if_pos hc11, hL37])
  by_cases hc12 : v = 12
  · refine aw_tableIn (tgt := 164) hO dX11_count_1 hv (by omega) (by omega) (by rw [hc12]; rfl) rfl ?_
    refine aw_aload_n hO dX11_count_164 rfl rfl ?_
    refine gC_X11_58_0 hO dX11_count_165 rfl ?_
    refine gC_X11_249_31 hO dX11_count_168 rfl ?_
    refine aw_cg ha1 ?_
    refine aw_iret hO dX11_count_171 ?_
    exact rI (by rw [if_neg hc0, if_neg hc1, if_neg hc2, if_neg hc3, if_neg hc4, if_neg hc5, if_neg hc6, if_neg hc7, if_neg hc8, if_neg hc9, if_neg hc10, if_neg hc11, if_pos hc12, ha2])
  refine aw_tableOut (tgt := 172) hO dX11_count_1 hv (by omega) rfl ?_
  refine aw_ldcw (a := (-1000000)) hO dX11_count_172 rfl (lw_t4 125 rfl rfl) ?_
  refine aw_iret hO dX11_count_175 ?_
  exact rI (by rw [if_neg hc0, if_neg hc1, if_neg hc2, if_neg hc3, if_neg hc4, if_neg hc5, if_neg hc6, if_neg hc7, if_neg hc8, if_neg hc9, if_neg hc10, if_neg hc11, if_neg hc12])
theorem dX11_rule_0 : decode cX11_rule 0 = .ok (.aload_n 0, 1) := by decide +kernel
theorem dX11_rule_1 : decode cX11_rule 1 = .ok (.getfield 41, 3) := by decide +kernel
theorem dX11_rule_4 : decode cX11_rule 4 = .ok (.invokevirtual 154, 3) := by decide +kernel
theorem dX11_rule_7 : decode cX11_rule 7 = .ok (.ifCond .eq 12, 3) := by decide +kernel
theorem dX11_rule_10 : decode cX11_rule 10 = .ok (.iload_n 1, 1) := by decide +kernel
theorem dX11_rule_11 : decode cX11_rule 11 = .ok (.ifCond .lt 8, 3) := by decide +kernel
theorem dX11_rule_14 : decode cX11_rule 14 = .ok (.iload_n 1, 1) := by decide +kernel
theorem dX11_rule_15 : decode cX11_rule 15 = .ok (.iconst 3, 1) := by decide +kernel
theorem dX11_rule_16 : decode cX11_rule 16 = .ok (.if_icmp .le 5, 3) := by decide +kernel
theorem dX11_rule_19 : decode cX11_rule 19 = .ok (.iconst (-1), 1) := by decide +kernel
theorem dX11_rule_20 : decode cX11_rule 20 = .ok (.ireturn, 1) := by decide +kernel
theorem dX11_rule_21 : decode cX11_rule 21 = .ok (.iload_n 1, 1) := by decide +kernel
theorem dX11_rule_22 : decode cX11_rule 22 = .ok (.iconst 3, 1) := by decide +kernel
theorem dX11_rule_23 : decode cX11_rule 23 = .ok (.if_icmp .ne 15, 3) := by decide +kernel
theorem dX11_rule_26 : decode cX11_rule 26 = .ok (.aload_n 0, 1) := by decide +kernel
theorem dX11_rule_27 : decode cX11_rule 27 = .ok (.getfield 48, 3) := by decide +kernel
theorem dX11_rule_30 : decode cX11_rule 30 = .ok (.getfield 158, 3) := by decide +kernel
theorem dX11_rule_33 : decode cX11_rule 33 = .ok (.iconst 3, 1) := by decide +kernel
theorem dX11_rule_34 : decode cX11_rule 34 = .ok (.iaload, 1) := by decide +kernel
theorem dX11_rule_35 : decode cX11_rule 35 = .ok (.goto 11, 3) := by decide +kernel
theorem dX11_rule_38 : decode cX11_rule 38 = .ok (.aload_n 0, 1) := by decide +kernel
theorem dX11_rule_39 : decode cX11_rule 39 = .ok (.getfield 41, 3) := by decide +kernel
theorem dX11_rule_42 : decode cX11_rule 42 = .ok (.iload_n 1, 1) := by decide +kernel
theorem dX11_rule_43 : decode cX11_rule 43 = .ok (.invokevirtual 161, 3) := by decide +kernel
theorem dX11_rule_46 : decode cX11_rule 46 = .ok (.ireturn, 1) := by decide +kernel
set_option maxHeartbeats 4000000 in
set_option maxRecDepth 100000 in
theorem cP_rule {μ ν : Mm} (h : Rel μ ν) {v : Int} (hv : InR v) : CtI PC 1 yX11_rule cX11_rule 2 (some .int) [vR 0, vI v] μ (if (ν.1 0 25) = 0 then (-1) else (if 0 ≤ v ∧ v ≤ 3 then (if v ≠ 3 then (ν.1 14 ((v).toNat)) else (ν.1 17 33)) else (-1))) := by
  refine ct_intro [some (vR 0), some (vI v)] RX11 (by decide) rfl XCo rfl (Nat.le_of_ble_eq_true rfl) (fun K hO => ?_)
  obtain ⟨c, hc, hlc1, hlc2, hl3, hl4, hl5⟩ := h.L
  obtain ⟨N, hN, hN1, hN2, hN3⟩ := h.P
  obtain ⟨a, x, ha, hx, ha1, ha2, ha3, ha4⟩ := h.A
  have hnp := h.B.np
  have hnt := h.B.nt
  have hr := h.B.now.rest
  have hN15 := h.N.2.1
  refine aw_aload_n hO dX11_rule_0 rfl rfl ?_
  refine gC_X11_41_0 hO dX11_rule_1 rfl ?_
  refine aw_callVI (as := []) (st := []) hO dX11_rule_4 rfl (lw_t3 96 rfl rfl) kX9_isTold (T := TX9) rfl (by decide) rfl (cJ_isTold h.JR.z) (by decide) rfl rfl rfl (Nat.le_of_ble_eq_true rfl) ?_
  refine aw_ifz_eq (tgt := 19) hO dX11_rule_7 rfl rfl (fun c7 => ?_) (fun c7 => ?_)
  · refine aw_iconst hO dX11_rule_19 rfl ?_
    refine aw_iret hO dX11_rule_20 ?_
    exact rI (by first | rw [if_pos (by omega)] | (split; rfl; rw [if_neg (by omega)]))
  · refine aw_iload_n hO dX11_rule_10 rfl rfl ?_
    refine aw_if_lt (tgt := 19) hO dX11_rule_11 rfl rfl hv (fun c11 => ?_) (fun c11 => ?_)
    · refine aw_iconst hO dX11_rule_19 rfl ?_
      refine aw_iret hO dX11_rule_20 ?_
      exact rI (by first | rw [if_pos (by omega)] | (split; rfl; rw [if_neg (by omega)]))
    · refine aw_iload_n hO dX11_rule_14 rfl rfl ?_
      refine aw_iconst hO dX11_rule_15 rfl ?_
      refine aw_icmp_le (tgt := 21) hO dX11_rule_16 rfl rfl hv (inRlit _) (fun c16 => ?_) (fun c16 => ?_)
      · refine aw_iload_n hO dX11_rule_21 rfl rfl ?_
        refine aw_iconst hO dX11_rule_22 rfl ?_
        refine aw_icmp_ne (tgt := 38) hO dX11_rule_23 rfl rfl hv (inRlit _) (fun c23 => ?_) (fun c23 => ?_)
        · obtain ⟨p, rfl⟩ := Int.eq_ofNat_of_zero_le c11
          refine aw_aload_n hO dX11_rule_38 rfl rfl ?_
          refine gC_X11_41_0 hO dX11_rule_39 rfl ?_
          refine aw_iload_n hO dX11_rule_42 rfl rfl ?_
          refine aw_callVI (as := [vI ((p : Nat) : Int)]) (st := []) hO dX11_rule_43 rfl (lw_t3 100 rfl rfl) kX9_liking (T := TX9) rfl (by decide) rfl (cJ_liking h.JR.z (k := p) (by omega)) (by decide) rfl rfl rfl (Nat.le_of_ble_eq_true rfl) ?_
          refine aw_iret hO dX11_rule_46 ?_
          exact rI (by rw [if_neg (by omega), if_pos (by omega), if_pos (by omega)]; rfl)
        · refine aw_aload_n hO dX11_rule_26 rfl rfl ?_
          refine gC_X11_48_0 hO dX11_rule_27 rfl ?_
          refine gC_X11_158_27 hO dX11_rule_30 rfl ?_
          refine aw_iconst hO dX11_rule_33 rfl ?_
          refine aw_ialdn (N := 98) (i := 3) hO dX11_rule_34 rfl (by decide) rfl (by decide) rfl (by decide) ?_
          refine aw_cg h.JR.S.sc.2.2.2.1 ?_
          refine aw_goto (tgt := 46) hO dX11_rule_35 rfl ?_
          refine aw_iret hO dX11_rule_46 ?_
          exact rI (by rw [if_neg (by omega), if_pos (by omega), if_neg (by omega)])
      · refine aw_iconst hO dX11_rule_19 rfl ?_
        refine aw_iret hO dX11_rule_20 ?_
        exact rI (by first | rw [if_pos (by omega)] | (split; rfl; rw [if_neg (by omega)]))
theorem dX11_trouble_0 : decode cX11_trouble 0 = .ok (.aload_n 0, 1) := by decide +kernel
theorem dX11_trouble_1 : decode cX11_trouble 1 = .ok (.getfield 41, 3) := by decide +kernel
theorem dX11_trouble_4 : decode cX11_trouble 4 = .ok (.iload_n 1, 1) := by decide +kernel
theorem dX11_trouble_5 : decode cX11_trouble 5 = .ok (.invokevirtual 193, 3) := by decide +kernel
theorem dX11_trouble_8 : decode cX11_trouble 8 = .ok (.ifCond .ne 5, 3) := by decide +kernel
theorem dX11_trouble_11 : decode cX11_trouble 11 = .ok (.iconst (-1), 1) := by decide +kernel
theorem dX11_trouble_12 : decode cX11_trouble 12 = .ok (.ireturn, 1) := by decide +kernel
theorem dX11_trouble_13 : decode cX11_trouble 13 = .ok (.iload_n 2, 1) := by decide +kernel
theorem dX11_trouble_14 : decode cX11_trouble 14 = .ok (.tableswitch 53 0 2 #[26, 35, 44], 26) := by decide +kernel
theorem dX11_trouble_40 : decode cX11_trouble 40 = .ok (.aload_n 0, 1) := by decide +kernel
theorem dX11_trouble_41 : decode cX11_trouble 41 = .ok (.getfield 41, 3) := by decide +kernel
theorem dX11_trouble_44 : decode cX11_trouble 44 = .ok (.iload_n 1, 1) := by decide +kernel
theorem dX11_trouble_45 : decode cX11_trouble 45 = .ok (.invokevirtual 196, 3) := by decide +kernel
theorem dX11_trouble_48 : decode cX11_trouble 48 = .ok (.ireturn, 1) := by decide +kernel
theorem dX11_trouble_49 : decode cX11_trouble 49 = .ok (.aload_n 0, 1) := by decide +kernel
theorem dX11_trouble_50 : decode cX11_trouble 50 = .ok (.getfield 48, 3) := by decide +kernel
theorem dX11_trouble_53 : decode cX11_trouble 53 = .ok (.iload_n 1, 1) := by decide +kernel
theorem dX11_trouble_54 : decode cX11_trouble 54 = .ok (.invokevirtual 199, 3) := by decide +kernel
theorem dX11_trouble_57 : decode cX11_trouble 57 = .ok (.ireturn, 1) := by decide +kernel
theorem dX11_trouble_58 : decode cX11_trouble 58 = .ok (.aload_n 0, 1) := by decide +kernel
theorem dX11_trouble_59 : decode cX11_trouble 59 = .ok (.getfield 41, 3) := by decide +kernel
theorem dX11_trouble_62 : decode cX11_trouble 62 = .ok (.iload_n 1, 1) := by decide +kernel
theorem dX11_trouble_63 : decode cX11_trouble 63 = .ok (.invokevirtual 202, 3) := by decide +kernel
theorem dX11_trouble_66 : decode cX11_trouble 66 = .ok (.ireturn, 1) := by decide +kernel
theorem dX11_trouble_67 : decode cX11_trouble 67 = .ok (.iconst (-1), 1) := by decide +kernel
theorem dX11_trouble_68 : decode cX11_trouble 68 = .ok (.ireturn, 1) := by decide +kernel
set_option maxHeartbeats 4000000 in
set_option maxRecDepth 100000 in
theorem cP_trouble {μ ν : Mm} (h : Rel μ ν) {u v : Int} (hu : InR u) (hv : InR v) : CtI PC 1 yX11_trouble cX11_trouble 3 (some .int) [vR 0, vI u, vI v] μ (if 0 ≤ u ∧ u ≤ ((ν.1 0 26) - 1) then (if 0 ≤ v ∧ v ≤ 2 then (if v ≠ 1 then (ν.1 16 ((((3 * u) + v)).toNat)) else (ν.1 17 (((24 + u)).toNat))) else (-1)) else (-1)) := by
  refine ct_intro [some (vR 0), some (vI u), some (vI v)] RX11 (by decide) rfl XCo rfl (Nat.le_of_ble_eq_true rfl) (fun K hO => ?_)
  obtain ⟨c, hc, hlc1, hlc2, hl3, hl4, hl5⟩ := h.L
  obtain ⟨N, hN, hN1, hN2, hN3⟩ := h.P
  obtain ⟨a, x, ha, hx, ha1, ha2, ha3, ha4⟩ := h.A
  have hnp := h.B.np
  have hnt := h.B.nt
  have hr := h.B.now.rest
  have hN15 := h.N.2.1
  refine aw_aload_n hO dX11_trouble_0 rfl rfl ?_
  refine gC_X11_41_0 hO dX11_trouble_1 rfl ?_
  refine aw_iload_n hO dX11_trouble_4 rfl rfl ?_
  refine aw_callVI (as := [vI u]) (st := []) hO dX11_trouble_5 rfl (lw_t3 108 rfl rfl) kX9_hasTrouble (T := TX9) rfl (by decide) rfl (cJ_hasTrouble h.JR.z hu) (by decide) rfl rfl rfl (Nat.le_of_ble_eq_true rfl) ?_
  refine aw_ifz_ne (tgt := 13) hO dX11_trouble_8 rfl rfl (fun c8 => ?_) (fun c8 => ?_)
  · obtain ⟨p, rfl⟩ := Int.eq_ofNat_of_zero_le c8.1
    refine aw_iload_n hO dX11_trouble_13 rfl rfl ?_
    by_cases hc0 : v = 0
    · refine aw_tableIn (tgt := 40) hO dX11_trouble_14 hv (by omega) (by omega) (by rw [hc0]; rfl) rfl ?_
      refine aw_aload_n hO dX11_trouble_40 rfl rfl ?_
      refine gC_X11_41_0 hO dX11_trouble_41 rfl ?_
      refine aw_iload_n hO dX11_trouble_44 rfl rfl ?_
      refine aw_callVI (as := [vI ((p : Nat) : Int)]) (st := []) hO dX11_trouble_45 rfl (lw_t3 112 rfl rfl) kX9_asksFor (T := TX9) rfl (by decide) rfl (cJ_asksFor h.JR.z (t := p) (by omega)) (by decide) rfl rfl rfl (Nat.le_of_ble_eq_true rfl) ?_
      refine aw_iret hO dX11_trouble_48 ?_
      exact rI (by rw [if_pos (by omega), if_pos (by omega), if_pos (by omega), hc0]; exact congrArg _ (by omega))
    by_cases hc1 : v = 1
    · refine aw_tableIn (tgt := 49) hO dX11_trouble_14 hv (by omega) (by omega) (by rw [hc1]; rfl) rfl ?_
      refine aw_aload_n hO dX11_trouble_49 rfl rfl ?_
      refine gC_X11_48_0 hO dX11_trouble_50 rfl ?_
      refine aw_iload_n hO dX11_trouble_53 rfl rfl ?_
      refine aw_callVI (as := [vI ((p : Nat) : Int)]) (st := []) hO dX11_trouble_54 rfl (lw_t3 116 rfl rfl) kX7_asks (T := TX7) rfl (by decide) rfl (cJ_asks h.JR.ob h.JR.S (p := p) (by omega)) (by decide) rfl rfl rfl (Nat.le_of_ble_eq_true rfl) ?_
      refine aw_iret hO dX11_trouble_57 ?_
      exact rI (by rw [if_pos (by omega), if_pos (by omega), if_neg (by omega)]; exact congrArg _ (by omega))
    by_cases hc2 : v = 2
    · refine aw_tableIn (tgt := 58) hO dX11_trouble_14 hv (by omega) (by omega) (by rw [hc2]; rfl) rfl ?_
      refine aw_aload_n hO dX11_trouble_58 rfl rfl ?_
      refine gC_X11_41_0 hO dX11_trouble_59 rfl ?_
      refine aw_iload_n hO dX11_trouble_62 rfl rfl ?_
      refine aw_callVI (as := [vI ((p : Nat) : Int)]) (st := []) hO dX11_trouble_63 rfl (lw_t3 120 rfl rfl) kX9_gravity (T := TX9) rfl (by decide) rfl (cJ_gravity h.JR.z (t := p) (by omega)) (by decide) rfl rfl rfl (Nat.le_of_ble_eq_true rfl) ?_
      refine aw_iret hO dX11_trouble_66 ?_
      exact rI (by rw [if_pos (by omega), if_pos (by omega), if_pos (by omega), hc2]; exact congrArg _ (by omega))
    refine aw_tableOut (tgt := 67) hO dX11_trouble_14 hv (by omega) rfl ?_
    refine aw_iconst hO dX11_trouble_67 rfl ?_
    refine aw_iret hO dX11_trouble_68 ?_
    exact rI (by rw [if_pos (by omega), if_neg (by omega)])
  · refine aw_iconst hO dX11_trouble_11 rfl ?_
    refine aw_iret hO dX11_trouble_12 ?_
    exact rI (by rw [if_neg (by omega)])
theorem dX11_status_0 : decode cX11_status 0 = .ok (.iload_n 1, 1) := by decide +kernel
theorem dX11_status_1 : decode cX11_status 1 = .ok (.ifCond .lt 8, 3) := by decide +kernel
theorem dX11_status_4 : decode cX11_status 4 = .ok (.iload_n 1, 1) := by decide +kernel
theorem dX11_status_5 : decode cX11_status 5 = .ok (.iconst 5, 1) := by decide +kernel
theorem dX11_status_6 : decode cX11_status 6 = .ok (.if_icmp .lt 7, 3) := by decide +kernel
theorem dX11_status_9 : decode cX11_status 9 = .ok (.iconst (-1), 1) := by decide +kernel
theorem dX11_status_10 : decode cX11_status 10 = .ok (.goto 9, 3) := by decide +kernel
theorem dX11_status_13 : decode cX11_status 13 = .ok (.aload_n 0, 1) := by decide +kernel
theorem dX11_status_14 : decode cX11_status 14 = .ok (.getfield 94, 3) := by decide +kernel
theorem dX11_status_17 : decode cX11_status 17 = .ok (.iload_n 1, 1) := by decide +kernel
theorem dX11_status_18 : decode cX11_status 18 = .ok (.iaload, 1) := by decide +kernel
theorem dX11_status_19 : decode cX11_status 19 = .ok (.ireturn, 1) := by decide +kernel
set_option maxRecDepth 100000 in
theorem gC_X11_94_0 {Q : Option AV → Mm → Prop} {K : KT} {cc : ByteArray} {nL d : Nat} {ret : Option FieldType} {pc n : Nat} {ls : List (Option AV)} {st : List AV} {μ : Mm} (hO : KOk PC Q K cc RX11 nL d ret) (hd : decode cc pc = .ok (.getfield 94, 3)) (hn : pc + 3 = n) (kk : AW K n ls (vR 85 :: st) μ) : AW K pc ls (vR 0 :: st) μ := aw_get (f := 12) hO hd hn okX11 (by decide) (lw_t2 57 rfl rfl) (by decide) rfl rfl rfl kk
set_option maxHeartbeats 4000000 in
set_option maxRecDepth 100000 in
theorem cP_status {μ ν : Mm} (h : Rel μ ν) {v : Int} (hv : InR v) : CtI PC 1 yX11_status cX11_status 2 (some .int) [vR 0, vI v] μ (if 0 ≤ v ∧ v ≤ 4 then (ν.1 18 ((v).toNat)) else (-1)) := by
  refine ct_intro [some (vR 0), some (vI v)] RX11 (by decide) rfl XCo rfl (Nat.le_of_ble_eq_true rfl) (fun K hO => ?_)
  obtain ⟨c, hc, hlc1, hlc2, hl3, hl4, hl5⟩ := h.L
  obtain ⟨N, hN, hN1, hN2, hN3⟩ := h.P
  obtain ⟨a, x, ha, hx, ha1, ha2, ha3, ha4⟩ := h.A
  have hnp := h.B.np
  have hnt := h.B.nt
  have hr := h.B.now.rest
  have hN15 := h.N.2.1
  refine aw_iload_n hO dX11_status_0 rfl rfl ?_
  refine aw_if_lt (tgt := 9) hO dX11_status_1 rfl rfl hv (fun c1 => ?_) (fun c1 => ?_)
  · refine aw_iconst hO dX11_status_9 rfl ?_
    refine aw_goto (tgt := 19) hO dX11_status_10 rfl ?_
    refine aw_iret hO dX11_status_19 ?_
    exact rI (by rw [if_neg (by omega)])
  · refine aw_iload_n hO dX11_status_4 rfl rfl ?_
    refine aw_iconst hO dX11_status_5 rfl ?_
    refine aw_icmp_lt (tgt := 13) hO dX11_status_6 rfl rfl hv (inRlit _) (fun c6 => ?_) (fun c6 => ?_)
    · obtain ⟨p, rfl⟩ := Int.eq_ofNat_of_zero_le c1
      refine aw_aload_n hO dX11_status_13 rfl rfl ?_
      refine gC_X11_94_0 hO dX11_status_14 rfl ?_
      refine aw_iload_n hO dX11_status_17 rfl rfl ?_
      refine aw_ialdn (N := 5) (i := p) hO dX11_status_18 rfl (by decide) rfl (by decide) rfl (by omega) ?_
      refine aw_cg (h.N.2.2.1 p (by omega)) ?_
      refine aw_iret hO dX11_status_19 ?_
      exact rI (by rw [if_pos (by omega)]; rfl)
    · refine aw_iconst hO dX11_status_9 rfl ?_
      refine aw_goto (tgt := 19) hO dX11_status_10 rfl ?_
      refine aw_iret hO dX11_status_19 ?_
      exact rI (by rw [if_neg (by omega)])
