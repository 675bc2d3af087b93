
def zerF (f : Nat → Int) (k : Nat) : Nat → Int := fun i => if i < k then 0 else f i
theorem zerF_0 (f : Nat → Int) : zerF f 0 = f := by funext i; unfold zerF; rw [if_neg (by omega)]
theorem zerF_s {f : Nat → Int} {k : Nat} : fu (zerF f k) k 0 = zerF f (k + 1) := by
  funext i
  unfold zerF fu
  by_cases h : i = k
  · rw [if_pos h, if_pos (by omega)]
  · rw [if_neg h]
    dsimp only
    by_cases h2 : i < k
    · rw [if_pos h2, if_pos (by omega)]
    · rw [if_neg h2, if_neg (by omega)]
def askF (f tr : Nat → Int) (t : Nat) : Nat → Int := fun i => if 24 ≤ i ∧ i < 24 + t then tr (3 * (i - 24) + 1) else f i
theorem askF_0 (f tr : Nat → Int) : askF f tr 0 = f := by funext i; unfold askF; rw [if_neg (by omega)]
theorem askF_s {f tr : Nat → Int} {t : Nat} : fu (askF f tr t) (24 + t) (tr (3 * t + 1)) = askF f tr (t + 1) := by
  funext i
  unfold askF fu
  by_cases h : i = 24 + t
  · rw [if_pos h, if_pos (by omega), show i - 24 = t by omega]
  · rw [if_neg h]
    dsimp only
    by_cases h2 : 24 ≤ i ∧ i < 24 + t
    · rw [if_pos h2, if_pos (by omega)]
    · rw [if_neg h2, if_neg (by omega)]
def tk0 (μ : Mm) : Mm := mst (mst μ 0 25 (μ.1 0 20)) 0 26 (μ.1 0 21)
def tk1 (μ : Mm) : Mm := mcp (tk0 μ) 14 11 0 0 4
def tk2 (μ : Mm) : Mm := mcp (tk1 μ) 15 12 0 0 24
def tk3 (μ : Mm) : Mm := mcp (tk2 μ) 16 13 0 0 15
def tk4 (μ : Mm) : Mm := mrow (tk3 μ) 17 (zerF ((tk3 μ).1 17) 218)
def tk5 (μ : Mm) : Mm := mrow (tk4 μ) 17 (askF ((tk4 μ).1 17) ((tk4 μ).1 16) (μ.1 0 21).toNat)
/-- the reference's memory behind a town that is taken -/
def takM (μ : Mm) : Mm := mst (mst (mst (mst (tk5 μ) 17 33 ((tk5 μ).1 14 3)) 0 41 0) 0 35 0) 0 45 0
theorem tk4_26 {μ : Mm} : (tk4 μ).1 0 26 = μ.1 0 21 := by
  unfold tk4 tk3 tk2 tk1
  rw [mrow_nk (by decide), mcp_nk (by decide), mcp_nk (by decide), mcp_nk (by decide)]
  unfold tk0
  rw [mst_eq]
theorem dX12_takeTown_0 : decode cX12_takeTown 0 = .ok (.aload_n 0, 1) := by decide +kernel
theorem dX12_takeTown_1 : decode cX12_takeTown 1 = .ok (.aload_n 0, 1) := by decide +kernel
theorem dX12_takeTown_2 : decode cX12_takeTown 2 = .ok (.getfield 226, 3) := by decide +kernel
theorem dX12_takeTown_5 : decode cX12_takeTown 5 = .ok (.putfield 242, 3) := by decide +kernel
theorem dX12_takeTown_8 : decode cX12_takeTown 8 = .ok (.aload_n 0, 1) := by decide +kernel
theorem dX12_takeTown_9 : decode cX12_takeTown 9 = .ok (.aload_n 0, 1) := by decide +kernel
theorem dX12_takeTown_10 : decode cX12_takeTown 10 = .ok (.getfield 229, 3) := by decide +kernel
theorem dX12_takeTown_13 : decode cX12_takeTown 13 = .ok (.putfield 245, 3) := by decide +kernel
theorem dX12_takeTown_16 : decode cX12_takeTown 16 = .ok (.iconst 0, 1) := by decide +kernel
theorem dX12_takeTown_17 : decode cX12_takeTown 17 = .ok (.istore_n 1, 1) := by decide +kernel
theorem dX12_takeTown_18 : decode cX12_takeTown 18 = .ok (.iload_n 1, 1) := by decide +kernel
theorem dX12_takeTown_19 : decode cX12_takeTown 19 = .ok (.iconst 4, 1) := by decide +kernel
theorem dX12_takeTown_20 : decode cX12_takeTown 20 = .ok (.if_icmp .ge 21, 3) := by decide +kernel
theorem dX12_takeTown_23 : decode cX12_takeTown 23 = .ok (.aload_n 0, 1) := by decide +kernel
theorem dX12_takeTown_24 : decode cX12_takeTown 24 = .ok (.getfield 49, 3) := by decide +kernel
theorem dX12_takeTown_27 : decode cX12_takeTown 27 = .ok (.iload_n 1, 1) := by decide +kernel
theorem dX12_takeTown_28 : decode cX12_takeTown 28 = .ok (.aload_n 0, 1) := by decide +kernel
theorem dX12_takeTown_29 : decode cX12_takeTown 29 = .ok (.getfield 40, 3) := by decide +kernel
theorem dX12_takeTown_32 : decode cX12_takeTown 32 = .ok (.iload_n 1, 1) := by decide +kernel
theorem dX12_takeTown_33 : decode cX12_takeTown 33 = .ok (.iaload, 1) := by decide +kernel
theorem dX12_takeTown_34 : decode cX12_takeTown 34 = .ok (.iastore, 1) := by decide +kernel
theorem dX12_takeTown_35 : decode cX12_takeTown 35 = .ok (.iinc 1 1, 3) := by decide +kernel
theorem dX12_takeTown_38 : decode cX12_takeTown 38 = .ok (.goto (-20), 3) := by decide +kernel
theorem dX12_takeTown_41 : decode cX12_takeTown 41 = .ok (.iconst 0, 1) := by decide +kernel
theorem dX12_takeTown_42 : decode cX12_takeTown 42 = .ok (.istore_n 1, 1) := by decide +kernel
theorem dX12_takeTown_43 : decode cX12_takeTown 43 = .ok (.iload_n 1, 1) := by decide +kernel
theorem dX12_takeTown_44 : decode cX12_takeTown 44 = .ok (.bipush 24, 2) := by decide +kernel
theorem dX12_takeTown_46 : decode cX12_takeTown 46 = .ok (.if_icmp .ge 21, 3) := by decide +kernel
theorem dX12_takeTown_49 : decode cX12_takeTown 49 = .ok (.aload_n 0, 1) := by decide +kernel
theorem dX12_takeTown_50 : decode cX12_takeTown 50 = .ok (.getfield 52, 3) := by decide +kernel
theorem dX12_takeTown_53 : decode cX12_takeTown 53 = .ok (.iload_n 1, 1) := by decide +kernel
theorem dX12_takeTown_54 : decode cX12_takeTown 54 = .ok (.aload_n 0, 1) := by decide +kernel
theorem dX12_takeTown_55 : decode cX12_takeTown 55 = .ok (.getfield 43, 3) := by decide +kernel
theorem dX12_takeTown_58 : decode cX12_takeTown 58 = .ok (.iload_n 1, 1) := by decide +kernel
theorem dX12_takeTown_59 : decode cX12_takeTown 59 = .ok (.iaload, 1) := by decide +kernel
theorem dX12_takeTown_60 : decode cX12_takeTown 60 = .ok (.iastore, 1) := by decide +kernel
theorem dX12_takeTown_61 : decode cX12_takeTown 61 = .ok (.iinc 1 1, 3) := by decide +kernel
theorem dX12_takeTown_64 : decode cX12_takeTown 64 = .ok (.goto (-21), 3) := by decide +kernel
theorem dX12_takeTown_67 : decode cX12_takeTown 67 = .ok (.iconst 0, 1) := by decide +kernel
theorem dX12_takeTown_68 : decode cX12_takeTown 68 = .ok (.istore_n 1, 1) := by decide +kernel
theorem dX12_takeTown_69 : decode cX12_takeTown 69 = .ok (.iload_n 1, 1) := by decide +kernel
theorem dX12_takeTown_70 : decode cX12_takeTown 70 = .ok (.bipush 15, 2) := by decide +kernel
theorem dX12_takeTown_72 : decode cX12_takeTown 72 = .ok (.if_icmp .ge 21, 3) := by decide +kernel
theorem dX12_takeTown_75 : decode cX12_takeTown 75 = .ok (.aload_n 0, 1) := by decide +kernel
theorem dX12_takeTown_76 : decode cX12_takeTown 76 = .ok (.getfield 55, 3) := by decide +kernel
theorem dX12_takeTown_79 : decode cX12_takeTown 79 = .ok (.iload_n 1, 1) := by decide +kernel
theorem dX12_takeTown_80 : decode cX12_takeTown 80 = .ok (.aload_n 0, 1) := by decide +kernel
theorem dX12_takeTown_81 : decode cX12_takeTown 81 = .ok (.getfield 46, 3) := by decide +kernel
theorem dX12_takeTown_84 : decode cX12_takeTown 84 = .ok (.iload_n 1, 1) := by decide +kernel
theorem dX12_takeTown_85 : decode cX12_takeTown 85 = .ok (.iaload, 1) := by decide +kernel
theorem dX12_takeTown_86 : decode cX12_takeTown 86 = .ok (.iastore, 1) := by decide +kernel
theorem dX12_takeTown_87 : decode cX12_takeTown 87 = .ok (.iinc 1 1, 3) := by decide +kernel
theorem dX12_takeTown_90 : decode cX12_takeTown 90 = .ok (.goto (-21), 3) := by decide +kernel
theorem dX12_takeTown_93 : decode cX12_takeTown 93 = .ok (.iconst 0, 1) := by decide +kernel
theorem dX12_takeTown_94 : decode cX12_takeTown 94 = .ok (.istore_n 1, 1) := by decide +kernel
theorem dX12_takeTown_95 : decode cX12_takeTown 95 = .ok (.iload_n 1, 1) := by decide +kernel
theorem dX12_takeTown_96 : decode cX12_takeTown 96 = .ok (.sipush 218, 3) := by decide +kernel
theorem dX12_takeTown_99 : decode cX12_takeTown 99 = .ok (.if_icmp .ge 16, 3) := by decide +kernel
theorem dX12_takeTown_102 : decode cX12_takeTown 102 = .ok (.aload_n 0, 1) := by decide +kernel
theorem dX12_takeTown_103 : decode cX12_takeTown 103 = .ok (.getfield 58, 3) := by decide +kernel
theorem dX12_takeTown_106 : decode cX12_takeTown 106 = .ok (.iload_n 1, 1) := by decide +kernel
theorem dX12_takeTown_107 : decode cX12_takeTown 107 = .ok (.iconst 0, 1) := by decide +kernel
theorem dX12_takeTown_108 : decode cX12_takeTown 108 = .ok (.iastore, 1) := by decide +kernel
theorem dX12_takeTown_109 : decode cX12_takeTown 109 = .ok (.iinc 1 1, 3) := by decide +kernel
theorem dX12_takeTown_112 : decode cX12_takeTown 112 = .ok (.goto (-17), 3) := by decide +kernel
theorem dX12_takeTown_115 : decode cX12_takeTown 115 = .ok (.iconst 0, 1) := by decide +kernel
theorem dX12_takeTown_116 : decode cX12_takeTown 116 = .ok (.istore_n 1, 1) := by decide +kernel
theorem dX12_takeTown_117 : decode cX12_takeTown 117 = .ok (.iload_n 1, 1) := by decide +kernel
theorem dX12_takeTown_118 : decode cX12_takeTown 118 = .ok (.aload_n 0, 1) := by decide +kernel
theorem dX12_takeTown_119 : decode cX12_takeTown 119 = .ok (.getfield 245, 3) := by decide +kernel
theorem dX12_takeTown_122 : decode cX12_takeTown 122 = .ok (.if_icmp .ge 28, 3) := by decide +kernel
theorem dX12_takeTown_125 : decode cX12_takeTown 125 = .ok (.aload_n 0, 1) := by decide +kernel
theorem dX12_takeTown_126 : decode cX12_takeTown 126 = .ok (.getfield 58, 3) := by decide +kernel
theorem dX12_takeTown_129 : decode cX12_takeTown 129 = .ok (.bipush 24, 2) := by decide +kernel
theorem dX12_takeTown_131 : decode cX12_takeTown 131 = .ok (.iload_n 1, 1) := by decide +kernel
theorem dX12_takeTown_132 : decode cX12_takeTown 132 = .ok (.iadd, 1) := by decide +kernel
theorem dX12_takeTown_133 : decode cX12_takeTown 133 = .ok (.aload_n 0, 1) := by decide +kernel
theorem dX12_takeTown_134 : decode cX12_takeTown 134 = .ok (.getfield 55, 3) := by decide +kernel
theorem dX12_takeTown_137 : decode cX12_takeTown 137 = .ok (.iconst 3, 1) := by decide +kernel
theorem dX12_takeTown_138 : decode cX12_takeTown 138 = .ok (.iload_n 1, 1) := by decide +kernel
theorem dX12_takeTown_139 : decode cX12_takeTown 139 = .ok (.imul, 1) := by decide +kernel
theorem dX12_takeTown_140 : decode cX12_takeTown 140 = .ok (.iconst 1, 1) := by decide +kernel
theorem dX12_takeTown_141 : decode cX12_takeTown 141 = .ok (.iadd, 1) := by decide +kernel
theorem dX12_takeTown_142 : decode cX12_takeTown 142 = .ok (.iaload, 1) := by decide +kernel
theorem dX12_takeTown_143 : decode cX12_takeTown 143 = .ok (.iastore, 1) := by decide +kernel
theorem dX12_takeTown_144 : decode cX12_takeTown 144 = .ok (.iinc 1 1, 3) := by decide +kernel
theorem dX12_takeTown_147 : decode cX12_takeTown 147 = .ok (.goto (-30), 3) := by decide +kernel
theorem dX12_takeTown_150 : decode cX12_takeTown 150 = .ok (.aload_n 0, 1) := by decide +kernel
theorem dX12_takeTown_151 : decode cX12_takeTown 151 = .ok (.getfield 58, 3) := by decide +kernel
theorem dX12_takeTown_154 : decode cX12_takeTown 154 = .ok (.bipush 33, 2) := by decide +kernel
theorem dX12_takeTown_156 : decode cX12_takeTown 156 = .ok (.aload_n 0, 1) := by decide +kernel
theorem dX12_takeTown_157 : decode cX12_takeTown 157 = .ok (.getfield 49, 3) := by decide +kernel
theorem dX12_takeTown_160 : decode cX12_takeTown 160 = .ok (.iconst 3, 1) := by decide +kernel
theorem dX12_takeTown_161 : decode cX12_takeTown 161 = .ok (.iaload, 1) := by decide +kernel
theorem dX12_takeTown_162 : decode cX12_takeTown 162 = .ok (.iastore, 1) := by decide +kernel
theorem dX12_takeTown_163 : decode cX12_takeTown 163 = .ok (.aload_n 0, 1) := by decide +kernel
theorem dX12_takeTown_164 : decode cX12_takeTown 164 = .ok (.iconst 0, 1) := by decide +kernel
theorem dX12_takeTown_165 : decode cX12_takeTown 165 = .ok (.putfield 248, 3) := by decide +kernel
theorem dX12_takeTown_168 : decode cX12_takeTown 168 = .ok (.aload_n 0, 1) := by decide +kernel
theorem dX12_takeTown_169 : decode cX12_takeTown 169 = .ok (.iconst 0, 1) := by decide +kernel
theorem dX12_takeTown_170 : decode cX12_takeTown 170 = .ok (.putfield 251, 3) := by decide +kernel
theorem dX12_takeTown_173 : decode cX12_takeTown 173 = .ok (.aload_n 0, 1) := by decide +kernel
theorem dX12_takeTown_174 : decode cX12_takeTown 174 = .ok (.iconst 0, 1) := by decide +kernel
theorem dX12_takeTown_175 : decode cX12_takeTown 175 = .ok (.putfield 254, 3) := by decide +kernel
theorem dX12_takeTown_178 : decode cX12_takeTown 178 = .ok (.aload_n 0, 1) := by decide +kernel
theorem dX12_takeTown_179 : decode cX12_takeTown 179 = .ok (.getfield 242, 3) := by decide +kernel
theorem dX12_takeTown_182 : decode cX12_takeTown 182 = .ok (.ireturn, 1) := by decide +kernel
set_option maxHeartbeats 4000000 in
set_option maxRecDepth 100000 in
theorem ctM_takeTown (μ : Mm) (hn : 0 ≤ μ.1 0 21 ∧ μ.1 0 21 ≤ 5) : CtE PM 0 yX12_takeTown cX12_takeTown 2 (some .int) [vR 0] μ (fun r m => r = (takM μ).1 0 25 ∧ m = takM μ) := by
  refine ct_intro [some (vR 0), none] RX12 (by decide) rfl XM rfl (Nat.le_of_ble_eq_true rfl) (fun K hO => ?_)
  have lp5 : ∀ (c t : Nat) (m : Mm), (t : Int) + c = μ.1 0 21 → m = mrow (tk4 μ) 17 (askF ((tk4 μ).1 17) ((tk4 μ).1 16) t) → AW K 117 [some (vR 0), some (vI ((t : Nat) : Int))] [] m := by
    intro c
    induction c with
    | zero =>
      intro t m ht hm
      have h26 : m.1 0 26 = μ.1 0 21 := by rw [hm, mrow_nk (by decide), tk4_26]
      have hm5 : m = tk5 μ := by rw [hm, show t = (μ.1 0 21).toNat by omega]; rfl
      refine aw_iload_n hO dX12_takeTown_117 rfl rfl ?_
      refine aw_aload_n hO dX12_takeTown_118 rfl rfl ?_
      refine gM_troubles hO dX12_takeTown_119 rfl ?_
      refine aw_icmp_ge (tgt := 150) hO dX12_takeTown_122 rfl rfl (inRn (by omega)) ⟨by omega, by omega⟩ (fun c122 => ?_) (fun c122 => ?_)
      · refine aw_aload_n hO dX12_takeTown_150 rfl rfl ?_
        refine gM_now hO dX12_takeTown_151 rfl ?_
        refine aw_bipush hO dX12_takeTown_154 rfl (by decide) (by decide) ?_
        refine aw_aload_n hO dX12_takeTown_156 rfl rfl ?_
        refine gM_rule hO dX12_takeTown_157 rfl ?_
        refine aw_iconst hO dX12_takeTown_160 rfl ?_
        refine aw_ialdn (N := 4) (i := 3) hO dX12_takeTown_161 rfl (by decide) rfl (by decide) rfl (by decide) ?_
        refine aw_iastn (N := 218) (i := 33) hO dX12_takeTown_162 rfl (by decide) rfl (by decide) rfl (by decide) ?_
        refine aw_mm (fun μ1 e_μ1 => ?_)
        refine aw_aload_n hO dX12_takeTown_163 rfl rfl ?_
        refine aw_iconst hO dX12_takeTown_164 rfl ?_
        refine pM_noted hO dX12_takeTown_165 rfl ?_
        refine aw_mm (fun μ2 e_μ2 => ?_)
        refine aw_aload_n hO dX12_takeTown_168 rfl rfl ?_
        refine aw_iconst hO dX12_takeTown_169 rfl ?_
        refine pM_acts hO dX12_takeTown_170 rfl ?_
        refine aw_mm (fun μ3 e_μ3 => ?_)
        refine aw_aload_n hO dX12_takeTown_173 rfl rfl ?_
        refine aw_iconst hO dX12_takeTown_174 rfl ?_
        refine pM_hasImage hO dX12_takeTown_175 rfl (Or.inl rfl) ?_
        refine aw_mm (fun μ4 e_μ4 => ?_)
        refine aw_aload_n hO dX12_takeTown_178 rfl rfl ?_
        refine gM_persons hO dX12_takeTown_179 rfl ?_
        refine aw_iret hO dX12_takeTown_182 ?_
        have hfin : μ4 = takM μ := by rw [e_μ4, e_μ3, e_μ2, e_μ1, hm5]; rfl
        exact ⟨_, rfl, by rw [hfin], hfin⟩
      · exact absurd c122 (by omega)
    | succ c ih =>
      intro t m ht hm
      have h26 : m.1 0 26 = μ.1 0 21 := by rw [hm, mrow_nk (by decide), tk4_26]
      refine aw_iload_n hO dX12_takeTown_117 rfl rfl ?_
      refine aw_aload_n hO dX12_takeTown_118 rfl rfl ?_
      refine gM_troubles hO dX12_takeTown_119 rfl ?_
      refine aw_icmp_ge (tgt := 150) hO dX12_takeTown_122 rfl rfl (inRn (by omega)) ⟨by omega, by omega⟩ (fun c122 => ?_) (fun c122 => ?_)
      · exact absurd c122 (by omega)
      · refine aw_aload_n hO dX12_takeTown_125 rfl rfl ?_
        refine gM_now hO dX12_takeTown_126 rfl ?_
        refine aw_bipush hO dX12_takeTown_129 rfl (by decide) (by decide) ?_
        refine aw_iload_n hO dX12_takeTown_131 rfl rfl ?_
        refine aw_iadd hO dX12_takeTown_132 rfl ?_
        refine aw_aload_n hO dX12_takeTown_133 rfl rfl ?_
        refine gM_trouble hO dX12_takeTown_134 rfl ?_
        refine aw_iconst hO dX12_takeTown_137 rfl ?_
        refine aw_iload_n hO dX12_takeTown_138 rfl rfl ?_
        refine aw_imul hO dX12_takeTown_139 rfl ?_
        refine aw_iconst hO dX12_takeTown_140 rfl ?_
        refine aw_iadd hO dX12_takeTown_141 rfl ?_
        refine aw_ialdn (N := 15) (i := (3 * t + 1)) hO dX12_takeTown_142 rfl (by decide) rfl (by decide) (by omega) (by omega) ?_
        refine aw_iastn (N := 218) (i := (24 + t)) hO dX12_takeTown_143 rfl (by decide) rfl (by decide) (by omega) (by omega) ?_
        refine aw_mm (fun μ5 e_μ5 => ?_)
        refine aw_iinc (ls' := [some (vR 0), some (vI (((t : Nat) : Int) + 1))]) hO dX12_takeTown_144 rfl rfl rfl rfl ?_
        refine aw_lsq (ls' := [some (vR 0), some (vI (((t + 1) : Nat) : Int))]) rfl ?_
        refine aw_goto (tgt := 117) hO dX12_takeTown_147 rfl ?_
        refine aw_lsq (ls' := [some (vR 0), some (vI (((t + 1) : Nat) : Int))]) rfl ?_
        exact ih (t + 1) μ5 (by omega) (by rw [e_μ5, hm, mst_mrow, mrow_nk (by decide), askF_s])
  have lp4 : ∀ (c t : Nat) (m : Mm), t + c = 218 → m = mrow (tk3 μ) 17 (zerF ((tk3 μ).1 17) t) → AW K 95 [some (vR 0), some (vI ((t : Nat) : Int))] [] m := by
    intro c
    induction c with
    | zero =>
      intro t m ht hm
      refine aw_iload_n hO dX12_takeTown_95 rfl rfl ?_
      refine aw_sipush hO dX12_takeTown_96 rfl (by decide) (by decide) ?_
      refine aw_icmp_ge (tgt := 115) hO dX12_takeTown_99 rfl rfl (inRn (by omega)) (inRlit _) (fun c99 => ?_) (fun c99 => ?_)
      · refine aw_iconst hO dX12_takeTown_115 rfl ?_
        refine aw_istore_n (ls' := [some (vR 0), some (vI 0)]) hO dX12_takeTown_116 rfl (Nat.le_of_ble_eq_true rfl) rfl rfl ?_
        refine aw_lsq (ls' := [some (vR 0), some (vI ((0 : Nat) : Int))]) rfl ?_
        exact lp5 (μ.1 0 21).toNat 0 m (by omega) (by rw [askF_0, mrow_self, hm, show t = 218 by omega]; rfl)
      · exact absurd c99 (by omega)
    | succ c ih =>
      intro t m ht hm
      refine aw_iload_n hO dX12_takeTown_95 rfl rfl ?_
      refine aw_sipush hO dX12_takeTown_96 rfl (by decide) (by decide) ?_
      refine aw_icmp_ge (tgt := 115) hO dX12_takeTown_99 rfl rfl (inRn (by omega)) (inRlit _) (fun c99 => ?_) (fun c99 => ?_)
      · exact absurd c99 (by omega)
      · refine aw_aload_n hO dX12_takeTown_102 rfl rfl ?_
        refine gM_now hO dX12_takeTown_103 rfl ?_
        refine aw_iload_n hO dX12_takeTown_106 rfl rfl ?_
        refine aw_iconst hO dX12_takeTown_107 rfl ?_
        refine aw_iastn (N := 218) (i := t) hO dX12_takeTown_108 rfl (by decide) rfl (by decide) (by omega) (by omega) ?_
        refine aw_mm (fun μ6 e_μ6 => ?_)
        refine aw_iinc (ls' := [some (vR 0), some (vI (((t : Nat) : Int) + 1))]) hO dX12_takeTown_109 rfl rfl rfl rfl ?_
        refine aw_lsq (ls' := [some (vR 0), some (vI (((t + 1) : Nat) : Int))]) rfl ?_
        refine aw_goto (tgt := 95) hO dX12_takeTown_112 rfl ?_
        refine aw_lsq (ls' := [some (vR 0), some (vI (((t + 1) : Nat) : Int))]) rfl ?_
        exact ih (t + 1) μ6 (by omega) (by rw [e_μ6, hm, mst_mrow, zerF_s])
  have lp3 : ∀ (c t : Nat) (m : Mm), t + c = 15 → m = mcp (tk2 μ) 16 13 0 0 t → AW K 69 [some (vR 0), some (vI ((t : Nat) : Int))] [] m := by
    intro c
    induction c with
    | zero =>
      intro t m ht hm
      refine aw_iload_n hO dX12_takeTown_69 rfl rfl ?_
      refine aw_bipush hO dX12_takeTown_70 rfl (by decide) (by decide) ?_
      refine aw_icmp_ge (tgt := 93) hO dX12_takeTown_72 rfl rfl (inRn (by omega)) (inRlit _) (fun c72 => ?_) (fun c72 => ?_)
      · refine aw_iconst hO dX12_takeTown_93 rfl ?_
        refine aw_istore_n (ls' := [some (vR 0), some (vI 0)]) hO dX12_takeTown_94 rfl (Nat.le_of_ble_eq_true rfl) rfl rfl ?_
        refine aw_lsq (ls' := [some (vR 0), some (vI ((0 : Nat) : Int))]) rfl ?_
        exact lp4 218 0 m (by omega) (by rw [zerF_0, mrow_self, hm, show t = 15 by omega]; rfl)
      · exact absurd c72 (by omega)
    | succ c ih =>
      intro t m ht hm
      refine aw_iload_n hO dX12_takeTown_69 rfl rfl ?_
      refine aw_bipush hO dX12_takeTown_70 rfl (by decide) (by decide) ?_
      refine aw_icmp_ge (tgt := 93) hO dX12_takeTown_72 rfl rfl (inRn (by omega)) (inRlit _) (fun c72 => ?_) (fun c72 => ?_)
      · exact absurd c72 (by omega)
      · refine aw_aload_n hO dX12_takeTown_75 rfl rfl ?_
        refine gM_trouble hO dX12_takeTown_76 rfl ?_
        refine aw_iload_n hO dX12_takeTown_79 rfl rfl ?_
        refine aw_aload_n hO dX12_takeTown_80 rfl rfl ?_
        refine gM_readTrouble hO dX12_takeTown_81 rfl ?_
        refine aw_iload_n hO dX12_takeTown_84 rfl rfl ?_
        refine aw_ialdn (N := 15) (i := t) hO dX12_takeTown_85 rfl (by decide) rfl (by decide) (by omega) (by omega) ?_
        refine aw_iastn (N := 15) (i := t) hO dX12_takeTown_86 rfl (by decide) rfl (by decide) (by omega) (by omega) ?_
        refine aw_mm (fun μ7 e_μ7 => ?_)
        refine aw_iinc (ls' := [some (vR 0), some (vI (((t : Nat) : Int) + 1))]) hO dX12_takeTown_87 rfl rfl rfl rfl ?_
        refine aw_lsq (ls' := [some (vR 0), some (vI (((t + 1) : Nat) : Int))]) rfl ?_
        refine aw_goto (tgt := 69) hO dX12_takeTown_90 rfl ?_
        refine aw_lsq (ls' := [some (vR 0), some (vI (((t + 1) : Nat) : Int))]) rfl ?_
        exact ih (t + 1) μ7 (by omega) (by rw [e_μ7, hm, mcp_nk (by decide)]; have := @mcp_s (tk2 μ) 16 13 0 0 t; simp only [Nat.zero_add] at this; exact this)
  have lp2 : ∀ (c t : Nat) (m : Mm), t + c = 24 → m = mcp (tk1 μ) 15 12 0 0 t → AW K 43 [some (vR 0), some (vI ((t : Nat) : Int))] [] m := by
    intro c
    induction c with
    | zero =>
      intro t m ht hm
      refine aw_iload_n hO dX12_takeTown_43 rfl rfl ?_
      refine aw_bipush hO dX12_takeTown_44 rfl (by decide) (by decide) ?_
      refine aw_icmp_ge (tgt := 67) hO dX12_takeTown_46 rfl rfl (inRn (by omega)) (inRlit _) (fun c46 => ?_) (fun c46 => ?_)
      · refine aw_iconst hO dX12_takeTown_67 rfl ?_
        refine aw_istore_n (ls' := [some (vR 0), some (vI 0)]) hO dX12_takeTown_68 rfl (Nat.le_of_ble_eq_true rfl) rfl rfl ?_
        refine aw_lsq (ls' := [some (vR 0), some (vI ((0 : Nat) : Int))]) rfl ?_
        exact lp3 15 0 m (by omega) (by rw [mcp_0, hm, show t = 24 by omega]; rfl)
      · exact absurd c46 (by omega)
    | succ c ih =>
      intro t m ht hm
      refine aw_iload_n hO dX12_takeTown_43 rfl rfl ?_
      refine aw_bipush hO dX12_takeTown_44 rfl (by decide) (by decide) ?_
      refine aw_icmp_ge (tgt := 67) hO dX12_takeTown_46 rfl rfl (inRn (by omega)) (inRlit _) (fun c46 => ?_) (fun c46 => ?_)
      · exact absurd c46 (by omega)
      · refine aw_aload_n hO dX12_takeTown_49 rfl rfl ?_
        refine gM_person hO dX12_takeTown_50 rfl ?_
        refine aw_iload_n hO dX12_takeTown_53 rfl rfl ?_
        refine aw_aload_n hO dX12_takeTown_54 rfl rfl ?_
        refine gM_readPerson hO dX12_takeTown_55 rfl ?_
        refine aw_iload_n hO dX12_takeTown_58 rfl rfl ?_
        refine aw_ialdn (N := 24) (i := t) hO dX12_takeTown_59 rfl (by decide) rfl (by decide) (by omega) (by omega) ?_
        refine aw_iastn (N := 24) (i := t) hO dX12_takeTown_60 rfl (by decide) rfl (by decide) (by omega) (by omega) ?_
        refine aw_mm (fun μ8 e_μ8 => ?_)
        refine aw_iinc (ls' := [some (vR 0), some (vI (((t : Nat) : Int) + 1))]) hO dX12_takeTown_61 rfl rfl rfl rfl ?_
        refine aw_lsq (ls' := [some (vR 0), some (vI (((t + 1) : Nat) : Int))]) rfl ?_
        refine aw_goto (tgt := 43) hO dX12_takeTown_64 rfl ?_
        refine aw_lsq (ls' := [some (vR 0), some (vI (((t + 1) : Nat) : Int))]) rfl ?_
        exact ih (t + 1) μ8 (by omega) (by rw [e_μ8, hm, mcp_nk (by decide)]; have := @mcp_s (tk1 μ) 15 12 0 0 t; simp only [Nat.zero_add] at this; exact this)
  have lp1 : ∀ (c t : Nat) (m : Mm), t + c = 4 → m = mcp (tk0 μ) 14 11 0 0 t → AW K 18 [some (vR 0), some (vI ((t : Nat) : Int))] [] m := by
    intro c
    induction c with
    | zero =>
      intro t m ht hm
      refine aw_iload_n hO dX12_takeTown_18 rfl rfl ?_
      refine aw_iconst hO dX12_takeTown_19 rfl ?_
      refine aw_icmp_ge (tgt := 41) hO dX12_takeTown_20 rfl rfl (inRn (by omega)) (inRlit _) (fun c20 => ?_) (fun c20 => ?_)
      · refine aw_iconst hO dX12_takeTown_41 rfl ?_
        refine aw_istore_n (ls' := [some (vR 0), some (vI 0)]) hO dX12_takeTown_42 rfl (Nat.le_of_ble_eq_true rfl) rfl rfl ?_
        refine aw_lsq (ls' := [some (vR 0), some (vI ((0 : Nat) : Int))]) rfl ?_
        exact lp2 24 0 m (by omega) (by rw [mcp_0, hm, show t = 4 by omega]; rfl)
      · exact absurd c20 (by omega)
    | succ c ih =>
      intro t m ht hm
      refine aw_iload_n hO dX12_takeTown_18 rfl rfl ?_
      refine aw_iconst hO dX12_takeTown_19 rfl ?_
      refine aw_icmp_ge (tgt := 41) hO dX12_takeTown_20 rfl rfl (inRn (by omega)) (inRlit _) (fun c20 => ?_) (fun c20 => ?_)
      · exact absurd c20 (by omega)
      · refine aw_aload_n hO dX12_takeTown_23 rfl rfl ?_
        refine gM_rule hO dX12_takeTown_24 rfl ?_
        refine aw_iload_n hO dX12_takeTown_27 rfl rfl ?_
        refine aw_aload_n hO dX12_takeTown_28 rfl rfl ?_
        refine gM_readRule hO dX12_takeTown_29 rfl ?_
        refine aw_iload_n hO dX12_takeTown_32 rfl rfl ?_
        refine aw_ialdn (N := 4) (i := t) hO dX12_takeTown_33 rfl (by decide) rfl (by decide) (by omega) (by omega) ?_
        refine aw_iastn (N := 4) (i := t) hO dX12_takeTown_34 rfl (by decide) rfl (by decide) (by omega) (by omega) ?_
        refine aw_mm (fun μ9 e_μ9 => ?_)
        refine aw_iinc (ls' := [some (vR 0), some (vI (((t : Nat) : Int) + 1))]) hO dX12_takeTown_35 rfl rfl rfl rfl ?_
        refine aw_lsq (ls' := [some (vR 0), some (vI (((t + 1) : Nat) : Int))]) rfl ?_
        refine aw_goto (tgt := 18) hO dX12_takeTown_38 rfl ?_
        refine aw_lsq (ls' := [some (vR 0), some (vI (((t + 1) : Nat) : Int))]) rfl ?_
        exact ih (t + 1) μ9 (by omega) (by rw [e_μ9, hm, mcp_nk (by decide)]; have := @mcp_s (tk0 μ) 14 11 0 0 t; simp only [Nat.zero_add] at this; exact this)
  refine aw_aload_n hO dX12_takeTown_0 rfl rfl ?_
  refine aw_aload_n hO dX12_takeTown_1 rfl rfl ?_
  refine gM_readPersons hO dX12_takeTown_2 rfl ?_
  refine pM_persons hO dX12_takeTown_5 rfl ?_
  refine aw_mm (fun μ10 e_μ10 => ?_)
  refine aw_aload_n hO dX12_takeTown_8 rfl rfl ?_
  refine aw_aload_n hO dX12_takeTown_9 rfl rfl ?_
  refine gM_readTroubles hO dX12_takeTown_10 rfl ?_
  refine pM_troubles hO dX12_takeTown_13 rfl ?_
  refine aw_mm (fun μ11 e_μ11 => ?_)
  refine aw_iconst hO dX12_takeTown_16 rfl ?_
  refine aw_istore_n (ls' := [some (vR 0), some (vI 0)]) hO dX12_takeTown_17 rfl (Nat.le_of_ble_eq_true rfl) rfl rfl ?_
  refine aw_lsq (ls' := [some (vR 0), some (vI ((0 : Nat) : Int))]) rfl ?_
  exact lp1 4 0 μ11 (by omega) (by rw [mcp_0, e_μ11, e_μ10, mst_ni (by decide)]; rfl)

theorem takM_25 {μ : Mm} : (takM μ).1 0 25 = μ.1 0 20 := by
  unfold takM tk5 tk4 tk3 tk2 tk1
  rw [mst_ni (by decide), mst_ni (by decide), mst_ni (by decide), mst_nk (by decide), mrow_nk (by decide), mrow_nk (by decide), mcp_nk (by decide), mcp_nk (by decide), mcp_nk (by decide)]
  unfold tk0
  rw [mst_ni (by decide), mst_eq]
/-- what reading writes, as a town or as law n -/
def sF (n k i : Nat) : Prop := sT k i ∨ sL n k i
theorem faultV_n {α : Type} {x : Nat × Option α} {q : Nat} (h : x = (q, none)) : faultV x = (q : Int) := by rw [h]; rfl
theorem faultV_s {α : Type} {x : Nat × Option α} {q : Nat} {a : α} (h : x = (q, some a)) : faultV x = -1 := by rw [h]; rfl
theorem pTown_G {g : Nat → Int} {N : Nat} (hG : Gok g N) : (∀ q, pTown g = (q, none) → q ≤ N) ∧ (∀ q s, pTown g = (q, some s) → q ≤ N ∧ TwOk s ∧ 2 ≤ s.2.1.1) := pTs_G hG 241 (sk g 0) tw0 (sk_le hG (Nat.zero_le _)) (by have := hG.1; omega) tw0_ok
theorem pLaw_G {g : Nat → Int} {N : Nat} (hG : Gok g N) : (∀ q, pLaw g = (q, none) → q ≤ N) ∧ (∀ q l, pLaw g = (q, some l) → q ≤ N ∧ (∀ c ∈ l, WC c) ∧ (cat l).length ≤ 240 ∧ 3 * l.length ≤ 240) := by
  have h := pLs_G hG 241 (sk g 0) [] (sk_le hG (Nat.zero_le _)) (by have := hG.1; omega) (fun c hc => absurd hc (by simp))
  have hN := hG.1
  refine ⟨fun q e => (h.1 q e).2, fun q l e => ?_⟩
  obtain ⟨a, b, c, d⟩ := h.2 q l e
  simp only [cat, List.flatMap_nil, List.length_nil] at c d
  exact ⟨a, b, by unfold cat; omega, by omega⟩
theorem dX12_fault_0 : decode cX12_fault 0 = .ok (.iload_n 1, 1) := by decide +kernel
theorem dX12_fault_1 : decode cX12_fault 1 = .ok (.ifCond .ne 10, 3) := by decide +kernel
theorem dX12_fault_4 : decode cX12_fault 4 = .ok (.aload_n 0, 1) := by decide +kernel
theorem dX12_fault_5 : decode cX12_fault 5 = .ok (.invokevirtual 236, 3) := by decide +kernel
theorem dX12_fault_8 : decode cX12_fault 8 = .ok (.goto 18, 3) := by decide +kernel
theorem dX12_fault_11 : decode cX12_fault 11 = .ok (.iload_n 1, 1) := by decide +kernel
theorem dX12_fault_12 : decode cX12_fault 12 = .ok (.iconst 1, 1) := by decide +kernel
theorem dX12_fault_13 : decode cX12_fault 13 = .ok (.if_icmp .ne 11, 3) := by decide +kernel
theorem dX12_fault_16 : decode cX12_fault 16 = .ok (.aload_n 0, 1) := by decide +kernel
theorem dX12_fault_17 : decode cX12_fault 17 = .ok (.iconst 4, 1) := by decide +kernel
theorem dX12_fault_18 : decode cX12_fault 18 = .ok (.invokevirtual 239, 3) := by decide +kernel
theorem dX12_fault_21 : decode cX12_fault 21 = .ok (.goto 5, 3) := by decide +kernel
theorem dX12_fault_24 : decode cX12_fault 24 = .ok (.bipush (-2), 2) := by decide +kernel
theorem dX12_fault_26 : decode cX12_fault 26 = .ok (.ireturn, 1) := by decide +kernel
set_option maxHeartbeats 4000000 in
set_option maxRecDepth 100000 in
theorem ctM_fault (μ : Mm) {g : Nat → Int} {N τ : Nat} (h : PT g N τ μ) (hRG : RG μ) {v : Int} (hv : InR v) : CtE PM 37 yX12_fault cX12_fault 2 (some .int) [vR 0, vI v] μ (fun r m => RG m ∧ r = (if v = 0 then faultV (pTown g) else if v = 1 then faultV (pLaw g) else -2) ∧ Fr (sF 4) μ m ∧ 0 ≤ m.1 0 14 ∧ m.1 0 14 ≤ 4) := by
  refine ct_intro [some (vR 0), some (vI v)] RX12 (by decide) rfl XM rfl (Nat.le_of_ble_eq_true rfl) (fun K hO => ?_)
  refine aw_iload_n hO dX12_fault_0 rfl rfl ?_
  refine aw_if_ne (tgt := 11) hO dX12_fault_1 rfl rfl hv (fun c1 => ?_) (fun c1 => ?_)
  · refine aw_iload_n hO dX12_fault_11 rfl rfl ?_
    refine aw_iconst hO dX12_fault_12 rfl ?_
    refine aw_icmp_ne (tgt := 24) hO dX12_fault_13 rfl rfl hv (inRlit _) (fun c13 => ?_) (fun c13 => ?_)
    · refine aw_bipush hO dX12_fault_24 rfl (by decide) (by decide) ?_
      refine aw_iret hO dX12_fault_26 ?_
      exact ⟨_, rfl, hRG, by rw [if_neg c1, if_neg c13], Fr.rf, by rw [h.2.2.2.1]; exact ⟨by omega, by have := h.2.2.2.2; omega⟩⟩
    · refine aw_aload_n hO dX12_fault_16 rfl rfl ?_
      refine aw_iconst hO dX12_fault_17 rfl ?_
      refine aw_callVE (as := [vI ((4 : Nat) : Int)]) (st := []) hO dX12_fault_18 rfl (lw_t6 175 rfl rfl) kX12_readLaw (T := TX12) rfl (by decide) rfl (ctM_readLaw μ (n := 4) h.1 h.2.1 h.2.2.1 (by omega)) (by decide) rfl rfl rfl (Nat.le_of_ble_eq_true rfl) (fun v1 μ2 hq3 => ?_)
      obtain ⟨hf_μ2, h14_μ2, e_v1, ht_μ2⟩ := hq3
      refine aw_goto (tgt := 26) hO dX12_fault_21 rfl ?_
      refine aw_iret hO dX12_fault_26 ?_
      exact ⟨_, rfl, fun i hi => by rw [hf_μ2.1 12 i (by unfold sL sS; omega)]; exact hRG i hi, by rw [if_neg c1, if_pos c13]; exact e_v1, hf_μ2.mono (fun _ _ => Or.inr), by rw [h14_μ2]; omega⟩
  · refine aw_aload_n hO dX12_fault_4 rfl rfl ?_
    refine aw_callVE (as := []) (st := []) hO dX12_fault_5 rfl (lw_t6 133 rfl rfl) kX12_readTown (T := TX12) rfl (by decide) rfl (ctM_readTown μ h hRG) (by decide) rfl rfl rfl (Nat.le_of_ble_eq_true rfl) (fun v4 μ5 hq6 => ?_)
    obtain ⟨hf_μ5, hg_μ5, e_v4, ht_μ5⟩ := hq6
    refine aw_goto (tgt := 26) hO dX12_fault_8 rfl ?_
    refine aw_iret hO dX12_fault_26 ?_
    exact ⟨_, rfl, hg_μ5, by rw [if_pos c1]; exact e_v4, hf_μ5.mono (fun _ _ => Or.inl), by rw [hf_μ5.1 0 14 (by unfold sT; omega), h.2.2.2.1]; exact ⟨by omega, by have := h.2.2.2.2; omega⟩⟩
theorem dX12_text_0 : decode cX12_text 0 = .ok (.iload_n 1, 1) := by decide +kernel
theorem dX12_text_1 : decode cX12_text 1 = .ok (.ifCond .ne 21, 3) := by decide +kernel
theorem dX12_text_4 : decode cX12_text 4 = .ok (.aload_n 0, 1) := by decide +kernel
theorem dX12_text_5 : decode cX12_text 5 = .ok (.invokevirtual 236, 3) := by decide +kernel
theorem dX12_text_8 : decode cX12_text 8 = .ok (.iconst (-1), 1) := by decide +kernel
theorem dX12_text_9 : decode cX12_text 9 = .ok (.if_icmp .ne 13, 3) := by decide +kernel
theorem dX12_text_12 : decode cX12_text 12 = .ok (.aload_n 0, 1) := by decide +kernel
theorem dX12_text_13 : decode cX12_text 13 = .ok (.iconst 0, 1) := by decide +kernel
theorem dX12_text_14 : decode cX12_text 14 = .ok (.putfield 97, 3) := by decide +kernel
theorem dX12_text_17 : decode cX12_text 17 = .ok (.aload_n 0, 1) := by decide +kernel
theorem dX12_text_18 : decode cX12_text 18 = .ok (.invokevirtual 258, 3) := by decide +kernel
theorem dX12_text_21 : decode cX12_text 21 = .ok (.ireturn, 1) := by decide +kernel
theorem dX12_text_22 : decode cX12_text 22 = .ok (.iload_n 1, 1) := by decide +kernel
theorem dX12_text_23 : decode cX12_text 23 = .ok (.iconst 1, 1) := by decide +kernel
theorem dX12_text_24 : decode cX12_text 24 = .ok (.if_icmp .ne 45, 3) := by decide +kernel
theorem dX12_text_27 : decode cX12_text 27 = .ok (.aload_n 0, 1) := by decide +kernel
theorem dX12_text_28 : decode cX12_text 28 = .ok (.getfield 261, 3) := by decide +kernel
theorem dX12_text_31 : decode cX12_text 31 = .ok (.iconst 4, 1) := by decide +kernel
theorem dX12_text_32 : decode cX12_text 32 = .ok (.if_icmp .ge 37, 3) := by decide +kernel
theorem dX12_text_35 : decode cX12_text 35 = .ok (.aload_n 0, 1) := by decide +kernel
theorem dX12_text_36 : decode cX12_text 36 = .ok (.aload_n 0, 1) := by decide +kernel
theorem dX12_text_37 : decode cX12_text 37 = .ok (.getfield 261, 3) := by decide +kernel
theorem dX12_text_40 : decode cX12_text 40 = .ok (.invokevirtual 239, 3) := by decide +kernel
theorem dX12_text_43 : decode cX12_text 43 = .ok (.iconst (-1), 1) := by decide +kernel
theorem dX12_text_44 : decode cX12_text 44 = .ok (.if_icmp .ne 25, 3) := by decide +kernel
theorem dX12_text_47 : decode cX12_text 47 = .ok (.aload_n 0, 1) := by decide +kernel
theorem dX12_text_48 : decode cX12_text 48 = .ok (.iconst 0, 1) := by decide +kernel
theorem dX12_text_49 : decode cX12_text 49 = .ok (.putfield 97, 3) := by decide +kernel
theorem dX12_text_52 : decode cX12_text 52 = .ok (.aload_n 0, 1) := by decide +kernel
theorem dX12_text_53 : decode cX12_text 53 = .ok (.dup, 1) := by decide +kernel
theorem dX12_text_54 : decode cX12_text 54 = .ok (.getfield 261, 3) := by decide +kernel
theorem dX12_text_57 : decode cX12_text 57 = .ok (.iconst 1, 1) := by decide +kernel
theorem dX12_text_58 : decode cX12_text 58 = .ok (.iadd, 1) := by decide +kernel
theorem dX12_text_59 : decode cX12_text 59 = .ok (.putfield 261, 3) := by decide +kernel
theorem dX12_text_62 : decode cX12_text 62 = .ok (.aload_n 0, 1) := by decide +kernel
theorem dX12_text_63 : decode cX12_text 63 = .ok (.getfield 261, 3) := by decide +kernel
theorem dX12_text_66 : decode cX12_text 66 = .ok (.iconst 1, 1) := by decide +kernel
theorem dX12_text_67 : decode cX12_text 67 = .ok (.isub, 1) := by decide +kernel
theorem dX12_text_68 : decode cX12_text 68 = .ok (.ireturn, 1) := by decide +kernel
theorem dX12_text_69 : decode cX12_text 69 = .ok (.iconst (-1), 1) := by decide +kernel
theorem dX12_text_70 : decode cX12_text 70 = .ok (.ireturn, 1) := by decide +kernel
set_option maxHeartbeats 4000000 in
set_option maxRecDepth 100000 in
theorem ctM_text (μ : Mm) {g : Nat → Int} {N τ : Nat} (h : PT g N τ μ) (hRG : RG μ) {n : Nat} (hn : μ.1 0 13 = (n : Int)) (hn4 : n ≤ 4) {v : Int} (hv : InR v) : CtE PM 37 yX12_text cX12_text 2 (some .int) [vR 0, vI v] μ (fun r m => (∀ q s, v = 0 → pTown g = (q, some s) → r = (s.2.1.1 : Int) ∧ ∃ m1, Fr sT μ m1 ∧ RG m1 ∧ TM m1 s ∧ m = takM (mst m1 0 2 0)) ∧ (∀ q l, v = 1 → n < 4 → pLaw g = (q, some l) → r = (n : Int) ∧ ∃ m1, Fr (sL n) μ m1 ∧ m1.1 0 14 = (n : Int) ∧ CF m1 n l ∧ Row m1 n (cat l) ∧ m = mst (mst m1 0 2 0) 0 13 ((n : Int) + 1)) ∧ (¬ (v = 0 ∧ ∃ q s, pTown g = (q, some s)) → ¬ (v = 1 ∧ n < 4 ∧ ∃ q l, pLaw g = (q, some l)) → r = -1 ∧ RG m ∧ Fr (sF n) μ m ∧ 0 ≤ m.1 0 14 ∧ m.1 0 14 ≤ 4)) := by
  refine ct_intro [some (vR 0), some (vI v)] RX12 (by decide) rfl XM rfl (Nat.le_of_ble_eq_true rfl) (fun K hO => ?_)
  have hG := h.1
  have hN := hG.1
  refine aw_iload_n hO dX12_text_0 rfl rfl ?_
  refine aw_if_ne (tgt := 22) hO dX12_text_1 rfl rfl hv (fun c1 => ?_) (fun c1 => ?_)
  · refine aw_iload_n hO dX12_text_22 rfl rfl ?_
    refine aw_iconst hO dX12_text_23 rfl ?_
    refine aw_icmp_ne (tgt := 69) hO dX12_text_24 rfl rfl hv (inRlit _) (fun c24 => ?_) (fun c24 => ?_)
    · refine aw_iconst hO dX12_text_69 rfl ?_
      refine aw_iret hO dX12_text_70 ?_
      exact ⟨_, rfl, fun q' s' hv0 => absurd hv0 (by omega), fun q' l' hv1 => absurd hv1 (by omega), fun _ _ => ⟨rfl, hRG, Fr.rf, by rw [h.2.2.2.1]; exact ⟨by omega, by have := h.2.2.2.2; omega⟩⟩⟩
    · refine aw_aload_n hO dX12_text_27 rfl rfl ?_
      refine gM_laws hO dX12_text_28 rfl ?_
      refine aw_iconst hO dX12_text_31 rfl ?_
      refine aw_icmp_ge (tgt := 69) hO dX12_text_32 rfl rfl ⟨by omega, by omega⟩ (inRlit _) (fun c32 => ?_) (fun c32 => ?_)
      · refine aw_iconst hO dX12_text_69 rfl ?_
        refine aw_iret hO dX12_text_70 ?_
        exact ⟨_, rfl, fun q' s' hv0 => absurd hv0 (by omega), fun q' l' hv1 hn3 => absurd hn3 (by omega), fun _ _ => ⟨rfl, hRG, Fr.rf, by rw [h.2.2.2.1]; exact ⟨by omega, by have := h.2.2.2.2; omega⟩⟩⟩
      · refine aw_aload_n hO dX12_text_35 rfl rfl ?_
        refine aw_aload_n hO dX12_text_36 rfl rfl ?_
        refine gM_laws hO dX12_text_37 rfl ?_
        refine aw_stq (st' := [vI ((n : Nat) : Int), vR 0]) (by rw [hn]) ?_
        refine aw_callVE (as := [vI ((n : Nat) : Int)]) (st := []) hO dX12_text_40 rfl (lw_t6 175 rfl rfl) kX12_readLaw (T := TX12) rfl (by decide) rfl (ctM_readLaw μ (n := n) h.1 h.2.1 h.2.2.1 hn4) (by decide) rfl rfl rfl (Nat.le_of_ble_eq_true rfl) (fun v1 μ2 hq3 => ?_)
        obtain ⟨hf_μ2, h14_μ2, e_v1, ht_μ2⟩ := hq3
        rcases hx : pLaw g with ⟨q, _ | l⟩
        · rw [faultV_n hx] at e_v1
          have hq := (pLaw_G hG).1 q hx
          refine aw_iconst hO dX12_text_43 rfl ?_
          refine aw_icmp_ne (tgt := 69) hO dX12_text_44 rfl rfl ⟨by omega, by omega⟩ (inRlit _) (fun c44 => ?_) (fun c44 => ?_)
          · refine aw_iconst hO dX12_text_69 rfl ?_
            refine aw_iret hO dX12_text_70 ?_
            exact ⟨_, rfl, fun q' s' hv0 => absurd hv0 (by omega), fun q' l' hv1 hn3 e => by rw [hx] at e; simp at e, fun _ _ => ⟨rfl, fun i hi => by rw [hf_μ2.1 12 i (by unfold sL sS; omega)]; exact hRG i hi, hf_μ2.mono (fun _ _ => Or.inr), by rw [h14_μ2]; omega⟩⟩
          · exact absurd c44 (by omega)
        · rw [faultV_s hx] at e_v1
          have hC := ht_μ2 q l hx
          refine aw_iconst hO dX12_text_43 rfl ?_
          refine aw_icmp_ne (tgt := 69) hO dX12_text_44 rfl rfl ⟨by omega, by omega⟩ (inRlit _) (fun c44 => ?_) (fun c44 => ?_)
          · exact absurd c44 (by omega)
          · refine aw_aload_n hO dX12_text_47 rfl rfl ?_
            refine aw_iconst hO dX12_text_48 rfl ?_
            refine pM_size hO dX12_text_49 rfl ?_
            refine aw_mm (fun μ4 e_μ4 => ?_)
            refine aw_aload_n hO dX12_text_52 rfl rfl ?_
            refine aw_dup hO dX12_text_53 rfl rfl ?_
            refine gM_laws hO dX12_text_54 rfl ?_
            refine aw_iconst hO dX12_text_57 rfl ?_
            refine aw_iadd hO dX12_text_58 rfl ?_
            refine pM_laws hO dX12_text_59 rfl ?_
            refine aw_mm (fun μ5 e_μ5 => ?_)
            have c2_μ5 : μ4.1 0 13 = (n : Int) := by rw [e_μ4, mst_ni (by decide), hf_μ2.1 0 13 (by unfold sL sS; omega), hn]
            refine aw_aload_n hO dX12_text_62 rfl rfl ?_
            refine gM_laws hO dX12_text_63 rfl ?_
            refine aw_iconst hO dX12_text_66 rfl ?_
            refine aw_isub hO dX12_text_67 rfl ?_
            refine aw_iret hO dX12_text_68 ?_
            have hc0 := c1
            exact ⟨_, rfl, fun q' s' hv0 => absurd hv0 (by omega), fun q' l' hv1 hn3 e => by
              rw [hx] at e
              simp only [Prod.mk.injEq, Option.some.injEq] at e
              rw [← e.2]
              refine ⟨?_, μ2, hf_μ2, h14_μ2, hC.1, hC.2, ?_⟩
              · rw [e_μ5, mst_eq, c2_μ5]; omega
              · rw [e_μ5, c2_μ5, e_μ4], fun hno hno2 => absurd ⟨c24, by omega, q, l, hx⟩ hno2⟩
  · refine aw_aload_n hO dX12_text_4 rfl rfl ?_
    refine aw_callVE (as := []) (st := []) hO dX12_text_5 rfl (lw_t6 133 rfl rfl) kX12_readTown (T := TX12) rfl (by decide) rfl (ctM_readTown μ h hRG) (by decide) rfl rfl rfl (Nat.le_of_ble_eq_true rfl) (fun v6 μ7 hq8 => ?_)
    obtain ⟨hf_μ7, hg_μ7, e_v6, ht_μ7⟩ := hq8
    rcases hx : pTown g with ⟨q, _ | s⟩
    · rw [faultV_n hx] at e_v6
      have hq := (pTown_G hG).1 q hx
      refine aw_iconst hO dX12_text_8 rfl ?_
      refine aw_icmp_ne (tgt := 22) hO dX12_text_9 rfl rfl ⟨by omega, by omega⟩ (inRlit _) (fun c9 => ?_) (fun c9 => ?_)
      · refine aw_iload_n hO dX12_text_22 rfl rfl ?_
        refine aw_iconst hO dX12_text_23 rfl ?_
        refine aw_icmp_ne (tgt := 69) hO dX12_text_24 rfl rfl hv (inRlit _) (fun c24 => ?_) (fun c24 => ?_)
        · refine aw_iconst hO dX12_text_69 rfl ?_
          refine aw_iret hO dX12_text_70 ?_
          exact ⟨_, rfl, fun q' s' hv0 e => by rw [hx] at e; simp at e, fun q' l' hv1 => absurd hv1 (by omega), fun _ _ => ⟨rfl, hg_μ7, hf_μ7.mono (fun _ _ => Or.inl), by rw [hf_μ7.1 0 14 (by unfold sT; omega), h.2.2.2.1]; exact ⟨by omega, by have := h.2.2.2.2; omega⟩⟩⟩
        · exact absurd c24 (by omega)
      · exact absurd c9 (by omega)
    · rw [faultV_s hx] at e_v6
      obtain ⟨hq, hok, h2p⟩ := (pTown_G hG).2 q s hx
      have hT := ht_μ7 q s hx
      refine aw_iconst hO dX12_text_8 rfl ?_
      refine aw_icmp_ne (tgt := 22) hO dX12_text_9 rfl rfl ⟨by omega, by omega⟩ (inRlit _) (fun c9 => ?_) (fun c9 => ?_)
      · exact absurd c9 (by omega)
      · refine aw_aload_n hO dX12_text_12 rfl rfl ?_
        refine aw_iconst hO dX12_text_13 rfl ?_
        refine pM_size hO dX12_text_14 rfl ?_
        refine aw_mm (fun μ9 e_μ9 => ?_)
        refine aw_aload_n hO dX12_text_17 rfl rfl ?_
        have h21 : μ9.1 0 21 = (s.2.2.1 : Int) := by rw [e_μ9, mst_ni (by decide)]; exact hT.2.1.2
        have h5 := hok.2.2.1
        refine aw_callVE (as := []) (st := []) hO dX12_text_18 rfl (lw_t7 9 rfl rfl) kX12_takeTown (T := TX12) rfl (by decide) rfl (ctM_takeTown μ9 ⟨by omega, by omega⟩) (by decide) rfl rfl rfl (Nat.le_of_ble_eq_true rfl) (fun v10 μ11 hq12 => ?_)
        obtain ⟨e_v10, e_μ11⟩ := hq12
        refine aw_iret hO dX12_text_21 ?_
        exact ⟨_, rfl, fun q' s' hv0 e => by
          rw [hx] at e
          simp only [Prod.mk.injEq, Option.some.injEq] at e
          rw [← e.2]
          refine ⟨?_, μ7, hf_μ7, hg_μ7, hT, by rw [e_μ11, e_μ9]⟩
          rw [e_v10, takM_25, e_μ9, mst_ni (by decide)]
          exact hT.2.1.1, fun q' l' hv1 => absurd hv1 (by omega), fun hno => absurd ⟨c1, q, s, hx⟩ hno⟩
