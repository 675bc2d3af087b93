/-! ## the class reads a law (3): conditions -/
theorem pCmp_pre {g : Nat → Int} {r q : Nat} {c : List Tok} : (∀ q2, pCmp g r q [] = (q2, none) → pCmp g r q c = (q2, none)) ∧ (∀ q2 c2, pCmp g r q [] = (q2, some c2) → pCmp g r q c = (q2, some (c ++ c2))) := by
  cases hs : sepR (g q) with
  | none =>
    rw [pCmp_n hs, pCmp_n hs]
    exact ⟨fun _ e => e, fun _ _ e => by simp at e⟩
  | some op =>
    rcases h : pSum g r (sk g (q + 1)) with ⟨q3, _ | c3⟩
    · rw [pCmp_b hs h, pCmp_b hs h]
      exact ⟨fun _ e => e, fun _ _ e => by simp at e⟩
    · rw [pCmp_g hs h, pCmp_g hs h]
      exact ⟨fun _ e => by simp at e, fun q2 c2 e => by
        simp only [Prod.mk.injEq, Option.some.injEq, List.nil_append] at e
        obtain ⟨rfl, rfl⟩ := e
        rfl⟩
theorem RO.mk0 {g : Nat → Int} {N q : Nat} {μ m : Mm} {X : List Int} {x : PR} (e : x = (q, none)) (h : LB g N μ m q) : RO g N μ X x 0 m := (RO_b e).mpr ⟨rfl, h⟩
theorem RO.mk1 {g : Nat → Int} {N q : Nat} {μ m : Mm} {X : List Int} {x : PR} {c : List Tok} (e : x = (q, some c)) (h : LG g N μ m q (X ++ c.map enc)) : RO g N μ X x 1 m := (RO_g e).mpr ⟨rfl, h⟩
section
variable {g : Nat → Int} {r p q : Nat} {U : Nat → PR}
theorem pUnC_n0 (h : g p = 33) (hr : r = 0) : pUn g r U p = (p, none) := by unfold pUn; rw [if_pos h, if_pos hr]
theorem pUnC_nb (h : g p = 33) (hr : r ≠ 0) (e : U (sk g (p + 1)) = (q, none)) : pUn g r U p = (q, none) := by unfold pUn; rw [if_pos h, if_neg hr, e]; rfl
theorem pUnC_ng {c : List Tok} (h : g p = 33) (hr : r ≠ 0) (e : U (sk g (p + 1)) = (q, some c)) : pUn g r U p = (q, some (c ++ [(9, 0)])) := by unfold pUn; rw [if_pos h, if_neg hr, e]; rfl
theorem pUnC_o0 (h : g p = 40) (hr : r = 0) : pUn g r U p = (p, none) := by unfold pUn; rw [if_neg (by omega), if_pos h, if_pos hr]
theorem pUnC_o (h : g p = 40) (hr : r ≠ 0) : pUn g r U p = shut g 41 (condOf g U (sk g (p + 1))) := by unfold pUn; rw [if_neg (by omega), if_pos h, if_neg hr]
theorem pUnC_s (h1 : g p ≠ 33) (h2 : g p ≠ 40) : pUn g r U p = cmpOf g r (pSum g r p) := by unfold pUn; rw [if_neg h1, if_neg h2]
end
theorem dX5_readUnit_0 : decode cX5_readUnit 0 = .ok (.iload_n 2, 1) := by decide +kernel
theorem dX5_readUnit_1 : decode cX5_readUnit 1 = .ok (.ifCond .ne 61, 3) := by decide +kernel
theorem dX5_readUnit_4 : decode cX5_readUnit 4 = .ok (.aload_n 0, 1) := by decide +kernel
theorem dX5_readUnit_5 : decode cX5_readUnit 5 = .ok (.getfield 18, 3) := by decide +kernel
theorem dX5_readUnit_8 : decode cX5_readUnit 8 = .ok (.invokevirtual 42, 3) := by decide +kernel
theorem dX5_readUnit_11 : decode cX5_readUnit 11 = .ok (.bipush 33, 2) := by decide +kernel
theorem dX5_readUnit_13 : decode cX5_readUnit 13 = .ok (.if_icmp .ne 49, 3) := by decide +kernel
theorem dX5_readUnit_16 : decode cX5_readUnit 16 = .ok (.iload_n 1, 1) := by decide +kernel
theorem dX5_readUnit_17 : decode cX5_readUnit 17 = .ok (.bipush 6, 2) := by decide +kernel
theorem dX5_readUnit_19 : decode cX5_readUnit 19 = .ok (.if_icmp .ge 30, 3) := by decide +kernel
theorem dX5_readUnit_22 : decode cX5_readUnit 22 = .ok (.aload_n 0, 1) := by decide +kernel
theorem dX5_readUnit_23 : decode cX5_readUnit 23 = .ok (.getfield 18, 3) := by decide +kernel
theorem dX5_readUnit_26 : decode cX5_readUnit 26 = .ok (.bipush 33, 2) := by decide +kernel
theorem dX5_readUnit_28 : decode cX5_readUnit 28 = .ok (.invokevirtual 38, 3) := by decide +kernel
theorem dX5_readUnit_31 : decode cX5_readUnit 31 = .ok (.ifCond .eq 18, 3) := by decide +kernel
theorem dX5_readUnit_34 : decode cX5_readUnit 34 = .ok (.aload_n 0, 1) := by decide +kernel
theorem dX5_readUnit_35 : decode cX5_readUnit 35 = .ok (.iload_n 1, 1) := by decide +kernel
theorem dX5_readUnit_36 : decode cX5_readUnit 36 = .ok (.iconst 1, 1) := by decide +kernel
theorem dX5_readUnit_37 : decode cX5_readUnit 37 = .ok (.iadd, 1) := by decide +kernel
theorem dX5_readUnit_38 : decode cX5_readUnit 38 = .ok (.iconst 0, 1) := by decide +kernel
theorem dX5_readUnit_39 : decode cX5_readUnit 39 = .ok (.invokevirtual 64, 3) := by decide +kernel
theorem dX5_readUnit_42 : decode cX5_readUnit 42 = .ok (.ifCond .eq 7, 3) := by decide +kernel
theorem dX5_readUnit_45 : decode cX5_readUnit 45 = .ok (.iconst 1, 1) := by decide +kernel
theorem dX5_readUnit_46 : decode cX5_readUnit 46 = .ok (.goto 4, 3) := by decide +kernel
theorem dX5_readUnit_49 : decode cX5_readUnit 49 = .ok (.iconst 0, 1) := by decide +kernel
theorem dX5_readUnit_50 : decode cX5_readUnit 50 = .ok (.istore_n 3, 1) := by decide +kernel
theorem dX5_readUnit_51 : decode cX5_readUnit 51 = .ok (.aload_n 0, 1) := by decide +kernel
theorem dX5_readUnit_52 : decode cX5_readUnit 52 = .ok (.getfield 12, 3) := by decide +kernel
theorem dX5_readUnit_55 : decode cX5_readUnit 55 = .ok (.bipush 33, 2) := by decide +kernel
theorem dX5_readUnit_57 : decode cX5_readUnit 57 = .ok (.invokevirtual 67, 3) := by decide +kernel
theorem dX5_readUnit_60 : decode cX5_readUnit 60 = .ok (.iload_n 3, 1) := by decide +kernel
theorem dX5_readUnit_61 : decode cX5_readUnit 61 = .ok (.ireturn, 1) := by decide +kernel
theorem dX5_readUnit_62 : decode cX5_readUnit 62 = .ok (.iload_n 2, 1) := by decide +kernel
theorem dX5_readUnit_63 : decode cX5_readUnit 63 = .ok (.ifCond .ne 62, 3) := by decide +kernel
theorem dX5_readUnit_66 : decode cX5_readUnit 66 = .ok (.aload_n 0, 1) := by decide +kernel
theorem dX5_readUnit_67 : decode cX5_readUnit 67 = .ok (.getfield 18, 3) := by decide +kernel
theorem dX5_readUnit_70 : decode cX5_readUnit 70 = .ok (.invokevirtual 42, 3) := by decide +kernel
theorem dX5_readUnit_73 : decode cX5_readUnit 73 = .ok (.bipush 40, 2) := by decide +kernel
theorem dX5_readUnit_75 : decode cX5_readUnit 75 = .ok (.if_icmp .ne 50, 3) := by decide +kernel
theorem dX5_readUnit_78 : decode cX5_readUnit 78 = .ok (.iload_n 1, 1) := by decide +kernel
theorem dX5_readUnit_79 : decode cX5_readUnit 79 = .ok (.bipush 6, 2) := by decide +kernel
theorem dX5_readUnit_81 : decode cX5_readUnit 81 = .ok (.if_icmp .ge 42, 3) := by decide +kernel
theorem dX5_readUnit_84 : decode cX5_readUnit 84 = .ok (.aload_n 0, 1) := by decide +kernel
theorem dX5_readUnit_85 : decode cX5_readUnit 85 = .ok (.getfield 18, 3) := by decide +kernel
theorem dX5_readUnit_88 : decode cX5_readUnit 88 = .ok (.bipush 40, 2) := by decide +kernel
theorem dX5_readUnit_90 : decode cX5_readUnit 90 = .ok (.invokevirtual 38, 3) := by decide +kernel
theorem dX5_readUnit_93 : decode cX5_readUnit 93 = .ok (.ifCond .eq 30, 3) := by decide +kernel
theorem dX5_readUnit_96 : decode cX5_readUnit 96 = .ok (.aload_n 0, 1) := by decide +kernel
theorem dX5_readUnit_97 : decode cX5_readUnit 97 = .ok (.iload_n 1, 1) := by decide +kernel
theorem dX5_readUnit_98 : decode cX5_readUnit 98 = .ok (.iconst 1, 1) := by decide +kernel
theorem dX5_readUnit_99 : decode cX5_readUnit 99 = .ok (.iadd, 1) := by decide +kernel
theorem dX5_readUnit_100 : decode cX5_readUnit 100 = .ok (.iconst 0, 1) := by decide +kernel
theorem dX5_readUnit_101 : decode cX5_readUnit 101 = .ok (.invokevirtual 57, 3) := by decide +kernel
theorem dX5_readUnit_104 : decode cX5_readUnit 104 = .ok (.ifCond .eq 19, 3) := by decide +kernel
theorem dX5_readUnit_107 : decode cX5_readUnit 107 = .ok (.aload_n 0, 1) := by decide +kernel
theorem dX5_readUnit_108 : decode cX5_readUnit 108 = .ok (.getfield 18, 3) := by decide +kernel
theorem dX5_readUnit_111 : decode cX5_readUnit 111 = .ok (.bipush 41, 2) := by decide +kernel
theorem dX5_readUnit_113 : decode cX5_readUnit 113 = .ok (.invokevirtual 38, 3) := by decide +kernel
theorem dX5_readUnit_116 : decode cX5_readUnit 116 = .ok (.ifCond .eq 7, 3) := by decide +kernel
theorem dX5_readUnit_119 : decode cX5_readUnit 119 = .ok (.iconst 1, 1) := by decide +kernel
theorem dX5_readUnit_120 : decode cX5_readUnit 120 = .ok (.goto 4, 3) := by decide +kernel
theorem dX5_readUnit_123 : decode cX5_readUnit 123 = .ok (.iconst 0, 1) := by decide +kernel
theorem dX5_readUnit_124 : decode cX5_readUnit 124 = .ok (.ireturn, 1) := by decide +kernel
theorem dX5_readUnit_125 : decode cX5_readUnit 125 = .ok (.iload_n 2, 1) := by decide +kernel
theorem dX5_readUnit_126 : decode cX5_readUnit 126 = .ok (.ifCond .ne 13, 3) := by decide +kernel
theorem dX5_readUnit_129 : decode cX5_readUnit 129 = .ok (.aload_n 0, 1) := by decide +kernel
theorem dX5_readUnit_130 : decode cX5_readUnit 130 = .ok (.iload_n 1, 1) := by decide +kernel
theorem dX5_readUnit_131 : decode cX5_readUnit 131 = .ok (.invokevirtual 46, 3) := by decide +kernel
theorem dX5_readUnit_134 : decode cX5_readUnit 134 = .ok (.ifCond .ne 5, 3) := by decide +kernel
theorem dX5_readUnit_137 : decode cX5_readUnit 137 = .ok (.iconst 0, 1) := by decide +kernel
theorem dX5_readUnit_138 : decode cX5_readUnit 138 = .ok (.ireturn, 1) := by decide +kernel
theorem dX5_readUnit_139 : decode cX5_readUnit 139 = .ok (.aload_n 0, 1) := by decide +kernel
theorem dX5_readUnit_140 : decode cX5_readUnit 140 = .ok (.getfield 18, 3) := by decide +kernel
theorem dX5_readUnit_143 : decode cX5_readUnit 143 = .ok (.invokevirtual 42, 3) := by decide +kernel
theorem dX5_readUnit_146 : decode cX5_readUnit 146 = .ok (.istore_n 3, 1) := by decide +kernel
theorem dX5_readUnit_147 : decode cX5_readUnit 147 = .ok (.iload_n 3, 1) := by decide +kernel
theorem dX5_readUnit_148 : decode cX5_readUnit 148 = .ok (.invokestatic 50, 3) := by decide +kernel
theorem dX5_readUnit_151 : decode cX5_readUnit 151 = .ok (.ifCond .ne 5, 3) := by decide +kernel
theorem dX5_readUnit_154 : decode cX5_readUnit 154 = .ok (.iconst 0, 1) := by decide +kernel
theorem dX5_readUnit_155 : decode cX5_readUnit 155 = .ok (.ireturn, 1) := by decide +kernel
theorem dX5_readUnit_156 : decode cX5_readUnit 156 = .ok (.aload_n 0, 1) := by decide +kernel
theorem dX5_readUnit_157 : decode cX5_readUnit 157 = .ok (.getfield 18, 3) := by decide +kernel
theorem dX5_readUnit_160 : decode cX5_readUnit 160 = .ok (.iload_n 3, 1) := by decide +kernel
theorem dX5_readUnit_161 : decode cX5_readUnit 161 = .ok (.i2c, 1) := by decide +kernel
theorem dX5_readUnit_162 : decode cX5_readUnit 162 = .ok (.invokevirtual 38, 3) := by decide +kernel
theorem dX5_readUnit_165 : decode cX5_readUnit 165 = .ok (.pop, 1) := by decide +kernel
theorem dX5_readUnit_166 : decode cX5_readUnit 166 = .ok (.aload_n 0, 1) := by decide +kernel
theorem dX5_readUnit_167 : decode cX5_readUnit 167 = .ok (.iload_n 1, 1) := by decide +kernel
theorem dX5_readUnit_168 : decode cX5_readUnit 168 = .ok (.invokevirtual 46, 3) := by decide +kernel
theorem dX5_readUnit_171 : decode cX5_readUnit 171 = .ok (.istore 4, 2) := by decide +kernel
theorem dX5_readUnit_173 : decode cX5_readUnit 173 = .ok (.aload_n 0, 1) := by decide +kernel
theorem dX5_readUnit_174 : decode cX5_readUnit 174 = .ok (.getfield 12, 3) := by decide +kernel
theorem dX5_readUnit_177 : decode cX5_readUnit 177 = .ok (.iload_n 3, 1) := by decide +kernel
theorem dX5_readUnit_178 : decode cX5_readUnit 178 = .ok (.invokevirtual 67, 3) := by decide +kernel
theorem dX5_readUnit_181 : decode cX5_readUnit 181 = .ok (.iload 4, 2) := by decide +kernel
theorem dX5_readUnit_183 : decode cX5_readUnit 183 = .ok (.ireturn, 1) := by decide +kernel
set_option maxHeartbeats 4000000 in
set_option maxRecDepth 100000 in
theorem cT_readCmp {r d : Nat} (hd : d + r = 6) : CR (6 + 2 * r) yX5_readUnit cX5_readUnit 5 [vR 8, vI ((d : Nat) : Int), vI 1] (fun g p => pCmp g r p []) := by
  intro μ g N p X h ha haN hsp hX hXp
  refine ct_intro [some (vR 8), some (vI ((d : Nat) : Int)), some (vI 1), none, none] RX5 (by decide) rfl XCo rfl (Nat.le_of_ble_eq_true rfl) (fun K hO => ?_)
  have hG := h.G
  have hN := hG.1
  have hgr := hG.rng p
  have hLG : LG g N μ μ p X := ⟨Fr.rf, h, ha, hX⟩
  have hLB : LB g N μ μ p := hLG.B (by omega)
  have j139 : ∀ (p1 : Nat) (X1 : List Int) (m : Mm), p1 ≤ N → sk g p1 = p1 → X1.length ≤ p1 → LG g N μ m p1 X1 → (∀ q m, pCmp g r p1 [] = (q, none) → LB g N μ m q → RO g N μ X (pCmp g r p []) 0 m) → (∀ q c m, pCmp g r p1 [] = (q, some c) → LG g N μ m q (X1 ++ c.map enc) → RO g N μ X (pCmp g r p []) 1 m) → AW K 139 [some (vR 8), some (vI ((d : Nat) : Int)), some (vI 1), none, none] [] m := by
    intro p1 X1 m hp1 hsk1 hX1 hL1 kf kt
    have hgr1 := hG.rng p1
    refine aw_aload_n hO dX5_readUnit_139 rfl rfl ?_
    refine gC_X5_18_8 hO dX5_readUnit_140 rfl ?_
    refine aw_callVI (as := []) (st := []) hO dX5_readUnit_143 rfl (lw_t3 17 rfl rfl) kX8_sign (T := TX8) rfl (by decide) rfl (cT_sign hL1.2.1.1 hL1.2.2.1 hp1) (by omega) rfl rfl rfl (Nat.le_of_ble_eq_true rfl) ?_
    refine aw_istore_n (ls' := [some (vR 8), some (vI ((d : Nat) : Int)), some (vI 1), some (vI (g p1)), none]) hO dX5_readUnit_146 rfl (Nat.le_of_ble_eq_true rfl) rfl rfl ?_
    refine aw_iload_n hO dX5_readUnit_147 rfl rfl ?_
    refine aw_callSI (as := [vI (g p1)]) (st := []) hO dX5_readUnit_148 rfl (lw_t3 38 rfl rfl) kX5_isRelation (cT_isRelation m (c := g p1) ⟨by omega, by omega⟩) (by omega) rfl rfl rfl (Nat.le_of_ble_eq_true rfl) ?_
    refine aw_ifz_ne (tgt := 156) hO dX5_readUnit_151 rfl rfl (fun c151 => ?_) (fun c151 => ?_)
    · obtain ⟨op, hop⟩ := Option.isSome_iff_exists.mp c151
      have hsg := sgR.2 _ op hop
      have hlt := hG.lt (p := p1) hsg.2.1
      have hPN := sk_le hG (p := p1 + 1) (by omega)
      have hP1 := sk_ge g (p1 + 1)
      refine aw_aload_n hO dX5_readUnit_156 rfl rfl ?_
      refine gC_X5_18_8 hO dX5_readUnit_157 rfl ?_
      refine aw_iload_n hO dX5_readUnit_160 rfl rfl ?_
      refine aw_i2c hO dX5_readUnit_161 rfl (by omega) (by omega) ?_
      refine aw_callVE (as := [vI (g p1)]) (st := []) hO dX5_readUnit_162 rfl (lw_t3 16 rfl rfl) kX8_takes (T := TX8) rfl (by decide) rfl (cT_takes hL1.2.1 hL1.2.2.1 hp1 (c := g p1) (by omega) (by omega)) (by omega) rfl rfl rfl (Nat.le_of_ble_eq_true rfl) (fun v1 μ2 hq3 => ?_)
      obtain ⟨e_v1, e_μ2⟩ := hq3
      rw [if_pos rfl] at e_μ2
      have hLt : LG g N μ μ2 (sk g (p1 + 1)) X1 := by rw [e_μ2]; exact hL1.tk
      refine aw_pop hO dX5_readUnit_165 rfl rfl ?_
      refine aw_aload_n hO dX5_readUnit_166 rfl rfl ?_
      refine aw_iload_n hO dX5_readUnit_167 rfl rfl ?_
      refine aw_callVE (as := [vI ((d : Nat) : Int)]) (st := []) hO dX5_readUnit_168 rfl (lw_t3 18 rfl rfl) kX5_readSum (T := TX5) rfl (by decide) rfl (cT_readSum r d hd μ2 g N (sk g (p1 + 1)) X1 hLt.2.1 hLt.2.2.1 hPN (sk_sk hG _) hLt.2.2.2 (by omega)) (by omega) rfl rfl rfl (Nat.le_of_ble_eq_true rfl) (fun v4 μ5 hq6 => ?_)
      have hRs := RO.tr hq6 hLt.1
      have hvz := hRs.z
      have hDs : DrB μ5 := by
        rcases hq : pSum g r (sk g (p1 + 1)) with ⟨q, _ | c⟩
        · exact ((RO_b hq).mp hRs).2.2.2.2
        · have := ((gqSum r g N hG _ hPN).2 q c hq); exact ((RO_g hq).mp hRs).2.2.2.2.B (by rw [List.length_append, List.length_map]; omega)
      refine aw_istore (ls' := [some (vR 8), some (vI ((d : Nat) : Int)), some (vI 1), some (vI (g p1)), some (vI v4)]) hO dX5_readUnit_171 rfl (Nat.le_of_ble_eq_true rfl) rfl rfl ?_
      refine aw_aload_n hO dX5_readUnit_173 rfl rfl ?_
      refine gC_X5_12_8 hO dX5_readUnit_174 rfl ?_
      refine aw_iload_n hO dX5_readUnit_177 rfl rfl ?_
      refine aw_callVV (as := [vI (g p1)]) (st := []) hO dX5_readUnit_178 rfl (lw_t3 33 rfl rfl) kX4_addSign (T := TX4) rfl (by decide) rfl (cT_addSign hDs (c := g p1) ⟨by omega, by omega⟩) (by omega) rfl rfl rfl (Nat.le_of_ble_eq_true rfl) (fun μ8 hq9 => ?_)
      have e_μ8 := hq9
      refine aw_iload hO dX5_readUnit_181 rfl rfl ?_
      refine aw_zret hO dX5_readUnit_183 hvz ?_
      rcases hvz with e0 | e1
      · obtain ⟨q, hq, hB⟩ := hRs.no e0
        rw [e0]
        exact ⟨_, rfl, kf q _ (pCmp_b hop hq) (by rw [e_μ8]; exact hB.sg _)⟩
      · obtain ⟨q, c2, hq, hL2⟩ := hRs.yes (by omega)
        have hq2 := (gqSum r g N hG _ hPN).2 q c2 hq
        rw [e1]
        exact ⟨_, rfl, kt q _ _ (pCmp_g hop hq) (by
          have := hL2.sg (by rw [List.length_append, List.length_map]; omega) hsg.2.1
          rw [← hsg.1] at this
          rw [e_μ8]
          simpa only [List.nil_append, List.map_append, List.map_cons, List.map_nil, List.append_assoc] using this)⟩
    · refine aw_iconst hO dX5_readUnit_154 rfl ?_
      refine aw_zret hO dX5_readUnit_155 (Or.inl rfl) ?_
      have hnone : sepR (g p1) = none := by simpa using c151
      exact ⟨_, rfl, kf p1 m (pCmp_n hnone) (hL1.B (by omega))⟩
  refine aw_iload_n hO dX5_readUnit_0 rfl rfl ?_
  refine aw_if_ne (tgt := 62) hO dX5_readUnit_1 rfl rfl (inRlit _) (fun c1 => ?_) (fun c1 => ?_)
  · refine aw_iload_n hO dX5_readUnit_62 rfl rfl ?_
    refine aw_if_ne (tgt := 125) hO dX5_readUnit_63 rfl rfl (inRlit _) (fun c63 => ?_) (fun c63 => ?_)
    · refine aw_iload_n hO dX5_readUnit_125 rfl rfl ?_
      refine aw_if_ne (tgt := 139) hO dX5_readUnit_126 rfl rfl (inRlit _) (fun c126 => ?_) (fun c126 => ?_)
      · exact j139 p X μ haN hsp hXp hLG (fun q m e hB => RO.mk0 e hB) (fun q c m e hL => RO.mk1 e hL)
      · exact absurd c126 (by omega)
    · exact absurd c63 (by omega)
  · exact absurd c1 (by omega)
set_option maxHeartbeats 4000000 in
set_option maxRecDepth 100000 in
theorem cT_readUnit0 {r d D D1 D2 : Nat} {U : (Nat → Int) → Nat → PR} (hd : d + r = 6) (hD : 6 + 2 * r ≤ D) (hD1 : D1 + 1 ≤ D) (hD2 : D2 + 1 ≤ D) (hGU : r ≠ 0 → GQ U) (hGC : r ≠ 0 → GQ (fun g => condOf g (U g))) (hU : r ≠ 0 → CR D1 yX5_readUnit cX5_readUnit 5 [vR 8, vI ((d + 1 : Nat) : Int), vI 0] U ∧ CR D2 yX5_readCondition cX5_readCondition 6 [vR 8, vI ((d + 1 : Nat) : Int), vI 0] (fun g => condOf g (U g))) : CR D yX5_readUnit cX5_readUnit 5 [vR 8, vI ((d : Nat) : Int), vI 0] (fun g => pUn g r (U g)) := by
  intro μ g N p X h ha haN hsp hX hXp
  refine ct_intro [some (vR 8), some (vI ((d : Nat) : Int)), some (vI 0), none, none] RX5 (by decide) rfl XCo rfl (Nat.le_of_ble_eq_true rfl) (fun K hO => ?_)
  have hG := h.G
  have hN := hG.1
  have hgr := hG.rng p
  have hLG : LG g N μ μ p X := ⟨Fr.rf, h, ha, hX⟩
  have hLB : LB g N μ μ p := hLG.B (by omega)
  have j139 : ∀ (p1 : Nat) (X1 : List Int) (m : Mm), p1 ≤ N → sk g p1 = p1 → X1.length ≤ p1 → LG g N μ m p1 X1 → (∀ q m, pCmp g r p1 [] = (q, none) → LB g N μ m q → RO g N μ X (pUn g r (U g) p) 0 m) → (∀ q c m, pCmp g r p1 [] = (q, some c) → LG g N μ m q (X1 ++ c.map enc) → RO g N μ X (pUn g r (U g) p) 1 m) → AW K 139 [some (vR 8), some (vI ((d : Nat) : Int)), some (vI 0), none, none] [] m := by
    intro p1 X1 m hp1 hsk1 hX1 hL1 kf kt
    have hgr1 := hG.rng p1
    refine aw_aload_n hO dX5_readUnit_139 rfl rfl ?_
    refine gC_X5_18_8 hO dX5_readUnit_140 rfl ?_
    refine aw_callVI (as := []) (st := []) hO dX5_readUnit_143 rfl (lw_t3 17 rfl rfl) kX8_sign (T := TX8) rfl (by decide) rfl (cT_sign hL1.2.1.1 hL1.2.2.1 hp1) (by omega) rfl rfl rfl (Nat.le_of_ble_eq_true rfl) ?_
    refine aw_istore_n (ls' := [some (vR 8), some (vI ((d : Nat) : Int)), some (vI 0), some (vI (g p1)), none]) hO dX5_readUnit_146 rfl (Nat.le_of_ble_eq_true rfl) rfl rfl ?_
    refine aw_iload_n hO dX5_readUnit_147 rfl rfl ?_
    refine aw_callSI (as := [vI (g p1)]) (st := []) hO dX5_readUnit_148 rfl (lw_t3 38 rfl rfl) kX5_isRelation (cT_isRelation m (c := g p1) ⟨by omega, by omega⟩) (by omega) rfl rfl rfl (Nat.le_of_ble_eq_true rfl) ?_
    refine aw_ifz_ne (tgt := 156) hO dX5_readUnit_151 rfl rfl (fun c151 => ?_) (fun c151 => ?_)
    · obtain ⟨op, hop⟩ := Option.isSome_iff_exists.mp c151
      have hsg := sgR.2 _ op hop
      have hlt := hG.lt (p := p1) hsg.2.1
      have hPN := sk_le hG (p := p1 + 1) (by omega)
      have hP1 := sk_ge g (p1 + 1)
      refine aw_aload_n hO dX5_readUnit_156 rfl rfl ?_
      refine gC_X5_18_8 hO dX5_readUnit_157 rfl ?_
      refine aw_iload_n hO dX5_readUnit_160 rfl rfl ?_
      refine aw_i2c hO dX5_readUnit_161 rfl (by omega) (by omega) ?_
      refine aw_callVE (as := [vI (g p1)]) (st := []) hO dX5_readUnit_162 rfl (lw_t3 16 rfl rfl) kX8_takes (T := TX8) rfl (by decide) rfl (cT_takes hL1.2.1 hL1.2.2.1 hp1 (c := g p1) (by omega) (by omega)) (by omega) rfl rfl rfl (Nat.le_of_ble_eq_true rfl) (fun v1 μ2 hq3 => ?_)
      obtain ⟨e_v1, e_μ2⟩ := hq3
      rw [if_pos rfl] at e_μ2
      have hLt : LG g N μ μ2 (sk g (p1 + 1)) X1 := by rw [e_μ2]; exact hL1.tk
      refine aw_pop hO dX5_readUnit_165 rfl rfl ?_
      refine aw_aload_n hO dX5_readUnit_166 rfl rfl ?_
      refine aw_iload_n hO dX5_readUnit_167 rfl rfl ?_
      refine aw_callVE (as := [vI ((d : Nat) : Int)]) (st := []) hO dX5_readUnit_168 rfl (lw_t3 18 rfl rfl) kX5_readSum (T := TX5) rfl (by decide) rfl (cT_readSum r d hd μ2 g N (sk g (p1 + 1)) X1 hLt.2.1 hLt.2.2.1 hPN (sk_sk hG _) hLt.2.2.2 (by omega)) (by omega) rfl rfl rfl (Nat.le_of_ble_eq_true rfl) (fun v4 μ5 hq6 => ?_)
      have hRs := RO.tr hq6 hLt.1
      have hvz := hRs.z
      have hDs : DrB μ5 := by
        rcases hq : pSum g r (sk g (p1 + 1)) with ⟨q, _ | c⟩
        · exact ((RO_b hq).mp hRs).2.2.2.2
        · have := ((gqSum r g N hG _ hPN).2 q c hq); exact ((RO_g hq).mp hRs).2.2.2.2.B (by rw [List.length_append, List.length_map]; omega)
      refine aw_istore (ls' := [some (vR 8), some (vI ((d : Nat) : Int)), some (vI 0), some (vI (g p1)), some (vI v4)]) hO dX5_readUnit_171 rfl (Nat.le_of_ble_eq_true rfl) rfl rfl ?_
      refine aw_aload_n hO dX5_readUnit_173 rfl rfl ?_
      refine gC_X5_12_8 hO dX5_readUnit_174 rfl ?_
      refine aw_iload_n hO dX5_readUnit_177 rfl rfl ?_
      refine aw_callVV (as := [vI (g p1)]) (st := []) hO dX5_readUnit_178 rfl (lw_t3 33 rfl rfl) kX4_addSign (T := TX4) rfl (by decide) rfl (cT_addSign hDs (c := g p1) ⟨by omega, by omega⟩) (by omega) rfl rfl rfl (Nat.le_of_ble_eq_true rfl) (fun μ8 hq9 => ?_)
      have e_μ8 := hq9
      refine aw_iload hO dX5_readUnit_181 rfl rfl ?_
      refine aw_zret hO dX5_readUnit_183 hvz ?_
      rcases hvz with e0 | e1
      · obtain ⟨q, hq, hB⟩ := hRs.no e0
        rw [e0]
        exact ⟨_, rfl, kf q _ (pCmp_b hop hq) (by rw [e_μ8]; exact hB.sg _)⟩
      · obtain ⟨q, c2, hq, hL2⟩ := hRs.yes (by omega)
        have hq2 := (gqSum r g N hG _ hPN).2 q c2 hq
        rw [e1]
        exact ⟨_, rfl, kt q _ _ (pCmp_g hop hq) (by
          have := hL2.sg (by rw [List.length_append, List.length_map]; omega) hsg.2.1
          rw [← hsg.1] at this
          rw [e_μ8]
          simpa only [List.nil_append, List.map_append, List.map_cons, List.map_nil, List.append_assoc] using this)⟩
    · refine aw_iconst hO dX5_readUnit_154 rfl ?_
      refine aw_zret hO dX5_readUnit_155 (Or.inl rfl) ?_
      have hnone : sepR (g p1) = none := by simpa using c151
      exact ⟨_, rfl, kf p1 m (pCmp_n hnone) (hL1.B (by omega))⟩
  have j50n : ∀ q m, LB g N μ m q → (pUn g r (U g) p) = (q, none) → AW K 50 [some (vR 8), some (vI ((d : Nat) : Int)), some (vI 0), none, none] [vI 0] m := by
    intro q m hB hq
    refine aw_istore_n (ls' := [some (vR 8), some (vI ((d : Nat) : Int)), some (vI 0), some (vI 0), none]) hO dX5_readUnit_50 rfl (Nat.le_of_ble_eq_true rfl) rfl rfl ?_
    refine aw_aload_n hO dX5_readUnit_51 rfl rfl ?_
    refine gC_X5_12_8 hO dX5_readUnit_52 rfl ?_
    refine aw_bipush hO dX5_readUnit_55 rfl (by decide) (by decide) ?_
    refine aw_callVV (as := [vI 33]) (st := []) hO dX5_readUnit_57 rfl (lw_t3 33 rfl rfl) kX4_addSign (T := TX4) rfl (by decide) rfl (cT_addSign hB.2.2.2 (c := 33) (inRlit _)) (by omega) rfl rfl rfl (Nat.le_of_ble_eq_true rfl) (fun μ11 hq12 => ?_)
    have e_μ11 := hq12
    refine aw_iload_n hO dX5_readUnit_60 rfl rfl ?_
    refine aw_zret hO dX5_readUnit_61 (Or.inl rfl) ?_
    exact ⟨_, rfl, RO.mk0 hq (by rw [e_μ11]; exact hB.sg _)⟩
  have j50y : ∀ q c m, LG g N μ m q (X ++ c.map enc) → X.length + c.length < 240 → (pUn g r (U g) p) = (q, some (c ++ [(9, 0)])) → AW K 50 [some (vR 8), some (vI ((d : Nat) : Int)), some (vI 0), none, none] [vI 1] m := by
    intro q c m hL hlen hq
    refine aw_istore_n (ls' := [some (vR 8), some (vI ((d : Nat) : Int)), some (vI 0), some (vI 1), none]) hO dX5_readUnit_50 rfl (Nat.le_of_ble_eq_true rfl) rfl rfl ?_
    refine aw_aload_n hO dX5_readUnit_51 rfl rfl ?_
    refine gC_X5_12_8 hO dX5_readUnit_52 rfl ?_
    refine aw_bipush hO dX5_readUnit_55 rfl (by decide) (by decide) ?_
    refine aw_callVV (as := [vI 33]) (st := []) hO dX5_readUnit_57 rfl (lw_t3 33 rfl rfl) kX4_addSign (T := TX4) rfl (by decide) rfl (cT_addSign (hL.2.2.2.B (by rw [List.length_append, List.length_map]; omega)) (c := 33) (inRlit _)) (by omega) rfl rfl rfl (Nat.le_of_ble_eq_true rfl) (fun μ14 hq15 => ?_)
    have e_μ14 := hq15
    refine aw_iload_n hO dX5_readUnit_60 rfl rfl ?_
    refine aw_zret hO dX5_readUnit_61 (Or.inr rfl) ?_
    exact ⟨_, rfl, RO.mk1 hq (by
      have := hL.sg (by rw [List.length_append, List.length_map]; omega) (s := 33) (by decide)
      rw [e_μ14]
      simpa only [List.map_append, List.map_cons, List.map_nil, List.append_assoc, show enc (9, 0) = 11000 + 33 from rfl] using this)⟩
  refine aw_iload_n hO dX5_readUnit_0 rfl rfl ?_
  refine aw_if_ne (tgt := 62) hO dX5_readUnit_1 rfl rfl (inRlit _) (fun c1 => ?_) (fun c1 => ?_)
  · exact absurd c1 (by omega)
  · refine aw_aload_n hO dX5_readUnit_4 rfl rfl ?_
    refine gC_X5_18_8 hO dX5_readUnit_5 rfl ?_
    refine aw_callVI (as := []) (st := []) hO dX5_readUnit_8 rfl (lw_t3 17 rfl rfl) kX8_sign (T := TX8) rfl (by decide) rfl (cT_sign h.1 ha haN) (by omega) rfl rfl rfl (Nat.le_of_ble_eq_true rfl) ?_
    refine aw_bipush hO dX5_readUnit_11 rfl (by decide) (by decide) ?_
    refine aw_icmp_ne (tgt := 62) hO dX5_readUnit_13 rfl rfl ⟨by omega, by omega⟩ (inRlit _) (fun c13 => ?_) (fun c13 => ?_)
    · refine aw_iload_n hO dX5_readUnit_62 rfl rfl ?_
      refine aw_if_ne (tgt := 125) hO dX5_readUnit_63 rfl rfl (inRlit _) (fun c63 => ?_) (fun c63 => ?_)
      · exact absurd c63 (by omega)
      · refine aw_aload_n hO dX5_readUnit_66 rfl rfl ?_
        refine gC_X5_18_8 hO dX5_readUnit_67 rfl ?_
        refine aw_callVI (as := []) (st := []) hO dX5_readUnit_70 rfl (lw_t3 17 rfl rfl) kX8_sign (T := TX8) rfl (by decide) rfl (cT_sign h.1 ha haN) (by omega) rfl rfl rfl (Nat.le_of_ble_eq_true rfl) ?_
        refine aw_bipush hO dX5_readUnit_73 rfl (by decide) (by decide) ?_
        refine aw_icmp_ne (tgt := 125) hO dX5_readUnit_75 rfl rfl ⟨by omega, by omega⟩ (inRlit _) (fun c75 => ?_) (fun c75 => ?_)
        · refine aw_iload_n hO dX5_readUnit_125 rfl rfl ?_
          refine aw_if_ne (tgt := 139) hO dX5_readUnit_126 rfl rfl (inRlit _) (fun c126 => ?_) (fun c126 => ?_)
          · exact absurd c126 (by omega)
          · refine aw_aload_n hO dX5_readUnit_129 rfl rfl ?_
            refine aw_iload_n hO dX5_readUnit_130 rfl rfl ?_
            refine aw_callVE (as := [vI ((d : Nat) : Int)]) (st := []) hO dX5_readUnit_131 rfl (lw_t3 18 rfl rfl) kX5_readSum (T := TX5) rfl (by decide) rfl (cT_readSum r d hd μ g N p X h ha haN hsp hX hXp) (by omega) rfl rfl rfl (Nat.le_of_ble_eq_true rfl) (fun v16 μ17 hq18 => ?_)
            have hRs : RO g N μ X (pSum g r p) v16 μ17 := hq18
            have hvz := hRs.z
            refine aw_if_ne (tgt := 139) hO dX5_readUnit_134 rfl rfl ⟨by omega, by omega⟩ (fun c134 => ?_) (fun c134 => ?_)
            · obtain ⟨sq, sc, hsq, hLs⟩ := hRs.yes c134
              have hsG := (gqSum r g N hG p haN).2 sq sc hsq
              refine j139 sq (X ++ sc.map enc) μ17 hsG.2.1 hsG.2.2.1 (by rw [List.length_append, List.length_map]; omega) hLs (fun q m e hB => RO.mk0 (q := q) ?_ hB) (fun q c m e hL => RO.mk1 (q := q) (c := sc ++ c) ?_ (by simpa only [List.map_append, List.append_assoc] using hL))
              · show pUn g r (U g) p = _
                rw [pUnC_s c13 c75, hsq]; exact pCmp_pre.1 q e
              · show pUn g r (U g) p = _
                rw [pUnC_s c13 c75, hsq]; exact pCmp_pre.2 q c e
            · refine aw_iconst hO dX5_readUnit_137 rfl ?_
              refine aw_zret hO dX5_readUnit_138 (Or.inl rfl) ?_
              obtain ⟨sq, hsq, hB⟩ := hRs.no c134
              exact ⟨_, rfl, RO.mk0 (q := sq) (by show pUn g r (U g) p = _; rw [pUnC_s c13 c75, hsq]; rfl) hB⟩
        · refine aw_iload_n hO dX5_readUnit_78 rfl rfl ?_
          refine aw_bipush hO dX5_readUnit_79 rfl (by decide) (by decide) ?_
          refine aw_icmp_ge (tgt := 123) hO dX5_readUnit_81 rfl rfl (inRn (by omega)) (inRlit _) (fun c81 => ?_) (fun c81 => ?_)
          · refine aw_iconst hO dX5_readUnit_123 rfl ?_
            refine aw_zret hO dX5_readUnit_124 (Or.inl rfl) ?_
            exact ⟨_, rfl, RO.mk0 (pUnC_o0 c75 (by omega)) hLB⟩
          · refine aw_aload_n hO dX5_readUnit_84 rfl rfl ?_
            refine gC_X5_18_8 hO dX5_readUnit_85 rfl ?_
            refine aw_bipush hO dX5_readUnit_88 rfl (by decide) (by decide) ?_
            refine aw_callVE (as := [vI 40]) (st := []) hO dX5_readUnit_90 rfl (lw_t3 16 rfl rfl) kX8_takes (T := TX8) rfl (by decide) rfl (cT_takes h ha haN (c := 40) (by omega) (by omega)) (by omega) rfl rfl rfl (Nat.le_of_ble_eq_true rfl) (fun v19 μ20 hq21 => ?_)
            obtain ⟨e_v19, e_μ20⟩ := hq21
            rw [if_pos c75] at e_v19 e_μ20
            have hLt : LG g N μ μ20 (sk g (p + 1)) X := by rw [e_μ20]; exact hLG.tk
            have hlt := hG.lt (p := p) (by omega)
            have hPN := sk_le hG (p := p + 1) (by omega)
            have hP1 := sk_ge g (p + 1)
            refine aw_if_eq (tgt := 123) hO dX5_readUnit_93 rfl rfl ⟨by omega, by omega⟩ (fun c93 => ?_) (fun c93 => ?_)
            · refine aw_iconst hO dX5_readUnit_123 rfl ?_
              refine aw_zret hO dX5_readUnit_124 (Or.inl rfl) ?_
              exact absurd c93 (by rw [e_v19]; decide)
            · refine aw_aload_n hO dX5_readUnit_96 rfl rfl ?_
              refine aw_iload_n hO dX5_readUnit_97 rfl rfl ?_
              refine aw_iconst hO dX5_readUnit_98 rfl ?_
              refine aw_iadd hO dX5_readUnit_99 rfl ?_
              refine aw_iconst hO dX5_readUnit_100 rfl ?_
              refine aw_callVE (as := [vI (((d + 1) : Nat) : Int), vI 0]) (st := []) hO dX5_readUnit_101 rfl (lw_t3 41 rfl rfl) kX5_readCondition (T := TX5) rfl (by decide) rfl ((hU (by omega)).2 μ20 g N (sk g (p + 1)) X hLt.2.1 hLt.2.2.1 hPN (sk_sk hG _) hLt.2.2.2 (by omega)) (by omega) rfl rfl rfl (Nat.le_of_ble_eq_true rfl) (fun v22 μ23 hq24 => ?_)
              have hRs : RO g N μ X (condOf g (U g) (sk g (p + 1))) v22 μ23 := RO.tr hq24 hLt.1
              have hvz := hRs.z
              refine aw_if_eq (tgt := 123) hO dX5_readUnit_104 rfl rfl ⟨by omega, by omega⟩ (fun c104 => ?_) (fun c104 => ?_)
              · refine aw_iconst hO dX5_readUnit_123 rfl ?_
                refine aw_zret hO dX5_readUnit_124 (Or.inl rfl) ?_
                obtain ⟨sq, hsq, hB⟩ := hRs.no c104
                exact ⟨_, rfl, RO.mk0 (q := sq) (by show pUn g r (U g) p = _; rw [pUnC_o c75 (by omega), hsq, shut_b]) hB⟩
              · obtain ⟨sq, sc, hsq, hLs⟩ := hRs.yes c104
                have hsG := (hGC (by omega) g N hG (sk g (p + 1)) hPN).2 sq sc hsq
                have hsqN : sq ≤ N := hsG.2.1
                refine aw_aload_n hO dX5_readUnit_107 rfl rfl ?_
                refine gC_X5_18_8 hO dX5_readUnit_108 rfl ?_
                refine aw_bipush hO dX5_readUnit_111 rfl (by decide) (by decide) ?_
                refine aw_callVE (as := [vI 41]) (st := []) hO dX5_readUnit_113 rfl (lw_t3 16 rfl rfl) kX8_takes (T := TX8) rfl (by decide) rfl (cT_takes hLs.2.1 hLs.2.2.1 hsqN (c := 41) (by omega) (by omega)) (by omega) rfl rfl rfl (Nat.le_of_ble_eq_true rfl) (fun v25 μ26 hq27 => ?_)
                obtain ⟨e_v25, e_μ26⟩ := hq27
                refine aw_if_eq (tgt := 123) hO dX5_readUnit_116 rfl rfl ⟨by omega, by omega⟩ (fun c116 => ?_) (fun c116 => ?_)
                · refine aw_iconst hO dX5_readUnit_123 rfl ?_
                  refine aw_zret hO dX5_readUnit_124 (Or.inl rfl) ?_
                  have h41 : ¬ g sq = 41 := fun e => by rw [if_pos e] at e_v25; omega
                  rw [if_neg h41] at e_μ26
                  exact ⟨_, rfl, RO.mk0 (q := sq) (by show pUn g r (U g) p = _; rw [pUnC_o c75 (by omega), hsq, shut_n h41]) (by rw [e_μ26]; exact hLs.B (by rw [List.length_append, List.length_map]; omega))⟩
                · refine aw_iconst hO dX5_readUnit_119 rfl ?_
                  refine aw_goto (tgt := 124) hO dX5_readUnit_120 rfl ?_
                  refine aw_zret hO dX5_readUnit_124 (Or.inr rfl) ?_
                  have h41 : g sq = 41 := by by_cases e : g sq = 41; exact e; rw [if_neg e] at e_v25; exact absurd e_v25 c116
                  rw [if_pos h41] at e_μ26
                  exact ⟨_, rfl, RO.mk1 (q := sk g (sq + 1)) (c := sc) (by show pUn g r (U g) p = _; rw [pUnC_o c75 (by omega), hsq, shut_g h41]) (by rw [e_μ26]; exact hLs.tk)⟩
    · refine aw_iload_n hO dX5_readUnit_16 rfl rfl ?_
      refine aw_bipush hO dX5_readUnit_17 rfl (by decide) (by decide) ?_
      refine aw_icmp_ge (tgt := 49) hO dX5_readUnit_19 rfl rfl (inRn (by omega)) (inRlit _) (fun c19 => ?_) (fun c19 => ?_)
      · refine aw_iconst hO dX5_readUnit_49 rfl ?_
        exact j50n p μ hLB (pUnC_n0 c13 (by omega))
      · refine aw_aload_n hO dX5_readUnit_22 rfl rfl ?_
        refine gC_X5_18_8 hO dX5_readUnit_23 rfl ?_
        refine aw_bipush hO dX5_readUnit_26 rfl (by decide) (by decide) ?_
        refine aw_callVE (as := [vI 33]) (st := []) hO dX5_readUnit_28 rfl (lw_t3 16 rfl rfl) kX8_takes (T := TX8) rfl (by decide) rfl (cT_takes h ha haN (c := 33) (by omega) (by omega)) (by omega) rfl rfl rfl (Nat.le_of_ble_eq_true rfl) (fun v28 μ29 hq30 => ?_)
        obtain ⟨e_v28, e_μ29⟩ := hq30
        rw [if_pos c13] at e_v28 e_μ29
        have hLt : LG g N μ μ29 (sk g (p + 1)) X := by rw [e_μ29]; exact hLG.tk
        have hlt := hG.lt (p := p) (by omega)
        have hPN := sk_le hG (p := p + 1) (by omega)
        have hP1 := sk_ge g (p + 1)
        refine aw_if_eq (tgt := 49) hO dX5_readUnit_31 rfl rfl ⟨by omega, by omega⟩ (fun c31 => ?_) (fun c31 => ?_)
        · refine aw_iconst hO dX5_readUnit_49 rfl ?_
          exact absurd c31 (by rw [e_v28]; decide)
        · refine aw_aload_n hO dX5_readUnit_34 rfl rfl ?_
          refine aw_iload_n hO dX5_readUnit_35 rfl rfl ?_
          refine aw_iconst hO dX5_readUnit_36 rfl ?_
          refine aw_iadd hO dX5_readUnit_37 rfl ?_
          refine aw_iconst hO dX5_readUnit_38 rfl ?_
          refine aw_callVE (as := [vI (((d + 1) : Nat) : Int), vI 0]) (st := []) hO dX5_readUnit_39 rfl (lw_t3 45 rfl rfl) kX5_readUnit (T := TX5) rfl (by decide) rfl ((hU (by omega)).1 μ29 g N (sk g (p + 1)) X hLt.2.1 hLt.2.2.1 hPN (sk_sk hG _) hLt.2.2.2 (by omega)) (by omega) rfl rfl rfl (Nat.le_of_ble_eq_true rfl) (fun v31 μ32 hq33 => ?_)
          have hRs : RO g N μ X (U g (sk g (p + 1))) v31 μ32 := RO.tr hq33 hLt.1
          have hvz := hRs.z
          refine aw_if_eq (tgt := 49) hO dX5_readUnit_42 rfl rfl ⟨by omega, by omega⟩ (fun c42 => ?_) (fun c42 => ?_)
          · refine aw_iconst hO dX5_readUnit_49 rfl ?_
            obtain ⟨sq, hsq, hB⟩ := hRs.no c42
            exact j50n sq μ32 hB (pUnC_nb c13 (by omega) hsq)
          · refine aw_iconst hO dX5_readUnit_45 rfl ?_
            refine aw_goto (tgt := 50) hO dX5_readUnit_46 rfl ?_
            obtain ⟨sq, sc, hsq, hLs⟩ := hRs.yes c42
            have hsG := (hGU (by omega) g N hG (sk g (p + 1)) hPN).2 sq sc hsq
            exact j50y sq sc μ32 hLs (by omega) (pUnC_ng c13 (by omega) hsq)
