/-! ## texts are taken (4) -/
theorem dX11_beginTown_0 : decode cX11_beginTown 0 = .ok (.aload_n 0, 1) := by decide +kernel
theorem dX11_beginTown_1 : decode cX11_beginTown 1 = .ok (.getfield 48, 3) := by decide +kernel
theorem dX11_beginTown_4 : decode cX11_beginTown 4 = .ok (.aload_n 0, 1) := by decide +kernel
theorem dX11_beginTown_5 : decode cX11_beginTown 5 = .ok (.getfield 41, 3) := by decide +kernel
theorem dX11_beginTown_8 : decode cX11_beginTown 8 = .ok (.invokevirtual 147, 3) := by decide +kernel
theorem dX11_beginTown_11 : decode cX11_beginTown 11 = .ok (.aload_n 0, 1) := by decide +kernel
theorem dX11_beginTown_12 : decode cX11_beginTown 12 = .ok (.getfield 58, 3) := by decide +kernel
theorem dX11_beginTown_15 : decode cX11_beginTown 15 = .ok (.invokevirtual 150, 3) := by decide +kernel
theorem dX11_beginTown_18 : decode cX11_beginTown 18 = .ok (.aload_n 0, 1) := by decide +kernel
theorem dX11_beginTown_19 : decode cX11_beginTown 19 = .ok (.getfield 90, 3) := by decide +kernel
theorem dX11_beginTown_22 : decode cX11_beginTown 22 = .ok (.invokevirtual 153, 3) := by decide +kernel
theorem dX11_beginTown_25 : decode cX11_beginTown 25 = .ok (.aload_n 0, 1) := by decide +kernel
theorem dX11_beginTown_26 : decode cX11_beginTown 26 = .ok (.iconst 0, 1) := by decide +kernel
theorem dX11_beginTown_27 : decode cX11_beginTown 27 = .ok (.putfield 108, 3) := by decide +kernel
theorem dX11_beginTown_30 : decode cX11_beginTown 30 = .ok (.return_, 1) := by decide +kernel
set_option maxHeartbeats 4000000 in
set_option maxRecDepth 100000 in
theorem cP_beginTown {μ : Mm} {T : Nat} (hT : μ.1 25 2 = (T : Int)) (hT5 : T ≤ 5) : CtV PC 2 yX11_beginTown cX11_beginTown 1 none [vR 0] μ (fun m => ∃ m4 m6, Fr (fun k _ => k = 28) μ m4 ∧ (∀ i, i < 98 → m4.1 28 i = bgF (μ.1 26 3) T (fun t => μ.1 26 (28 + 4 * t + 1)) i) ∧ Fr gS (mst m4 31 1 0) m6 ∧ m6.1 81 4 = 1000 ∧ m6.1 81 5 = 0 ∧ (∀ L, L < 1000 → m6.1 82 L = (L : Int)) ∧ m = mst m6 0 16 0) := by
  refine ct_intro [some (vR 0)] RX11 (by decide) rfl XCo rfl (Nat.le_of_ble_eq_true rfl) (fun K hO => ?_)
  refine aw_aload_n hO dX11_beginTown_0 rfl rfl ?_
  refine gC_X11_48_0 hO dX11_beginTown_1 rfl ?_
  refine aw_aload_n hO dX11_beginTown_4 rfl rfl ?_
  refine gC_X11_41_0 hO dX11_beginTown_5 rfl ?_
  refine aw_callVV (as := [vR 25]) (st := []) hO dX11_beginTown_8 rfl (lw_t3 66 rfl rfl) kX7_begin (T := TX7) rfl (by decide) rfl (cT_begin hT hT5) (by decide) rfl rfl rfl (Nat.le_of_ble_eq_true rfl) (fun μ2 hq3 => ?_)
  obtain ⟨hb1, hb2⟩ := hq3
  refine aw_aload_n hO dX11_beginTown_11 rfl rfl ?_
  refine gC_X11_58_0 hO dX11_beginTown_12 rfl ?_
  refine aw_callVV (as := []) (st := []) hO dX11_beginTown_15 rfl (lw_t3 79 rfl rfl) kX0_forget (T := TX0) rfl (by decide) rfl (ctC_0_forget μ2) (by decide) rfl rfl rfl (Nat.le_of_ble_eq_true rfl) (fun μ5 hq6 => ?_)
  have e_μ5 := hq6
  refine aw_aload_n hO dX11_beginTown_18 rfl rfl ?_
  refine gC_X11_90_0 hO dX11_beginTown_19 rfl ?_
  refine aw_callVV (as := []) (st := []) hO dX11_beginTown_22 rfl (lw_t3 83 rfl rfl) kX2_forget (T := TX2) rfl (by decide) rfl (cJ_forgetG μ5) (by decide) rfl rfl rfl (Nat.le_of_ble_eq_true rfl) (fun μ8 hq9 => ?_)
  obtain ⟨hg1, hg2, hg3, hg4⟩ := hq9
  rw [e_μ5] at hg1
  refine aw_aload_n hO dX11_beginTown_25 rfl rfl ?_
  refine aw_iconst hO dX11_beginTown_26 rfl ?_
  refine pC_X11_108_0 hO dX11_beginTown_27 rfl (Or.inl rfl) ?_
  refine aw_mm (fun μ10 e_μ10 => ?_)
  refine aw_vret hO dX11_beginTown_30 ?_
  exact ⟨rfl, μ2, μ8, hb1, hb2, hg1, hg2, hg3, hg4, e_μ10⟩
theorem dX11_text_0 : decode cX11_text 0 = .ok (.iload_n 1, 1) := by decide +kernel
theorem dX11_text_1 : decode cX11_text 1 = .ok (.ifCond .ne 48, 3) := by decide +kernel
theorem dX11_text_4 : decode cX11_text 4 = .ok (.aload_n 0, 1) := by decide +kernel
theorem dX11_text_5 : decode cX11_text 5 = .ok (.getfield 21, 3) := by decide +kernel
theorem dX11_text_8 : decode cX11_text 8 = .ok (.invokevirtual 124, 3) := by decide +kernel
theorem dX11_text_11 : decode cX11_text 11 = .ok (.iconst (-1), 1) := by decide +kernel
theorem dX11_text_12 : decode cX11_text 12 = .ok (.if_icmp .ne 37, 3) := by decide +kernel
theorem dX11_text_15 : decode cX11_text 15 = .ok (.aload_n 0, 1) := by decide +kernel
theorem dX11_text_16 : decode cX11_text 16 = .ok (.getfield 41, 3) := by decide +kernel
theorem dX11_text_19 : decode cX11_text 19 = .ok (.aload_n 0, 1) := by decide +kernel
theorem dX11_text_20 : decode cX11_text 20 = .ok (.getfield 21, 3) := by decide +kernel
theorem dX11_text_23 : decode cX11_text 23 = .ok (.getfield 129, 3) := by decide +kernel
theorem dX11_text_26 : decode cX11_text 26 = .ok (.invokevirtual 132, 3) := by decide +kernel
theorem dX11_text_29 : decode cX11_text 29 = .ok (.aload_n 0, 1) := by decide +kernel
theorem dX11_text_30 : decode cX11_text 30 = .ok (.getfield 10, 3) := by decide +kernel
theorem dX11_text_33 : decode cX11_text 33 = .ok (.iconst 0, 1) := by decide +kernel
theorem dX11_text_34 : decode cX11_text 34 = .ok (.putfield 117, 3) := by decide +kernel
theorem dX11_text_37 : decode cX11_text 37 = .ok (.aload_n 0, 1) := by decide +kernel
theorem dX11_text_38 : decode cX11_text 38 = .ok (.invokevirtual 135, 3) := by decide +kernel
theorem dX11_text_41 : decode cX11_text 41 = .ok (.aload_n 0, 1) := by decide +kernel
theorem dX11_text_42 : decode cX11_text 42 = .ok (.getfield 41, 3) := by decide +kernel
theorem dX11_text_45 : decode cX11_text 45 = .ok (.getfield 138, 3) := by decide +kernel
theorem dX11_text_48 : decode cX11_text 48 = .ok (.ireturn, 1) := by decide +kernel
theorem dX11_text_49 : decode cX11_text 49 = .ok (.iload_n 1, 1) := by decide +kernel
theorem dX11_text_50 : decode cX11_text 50 = .ok (.iconst 1, 1) := by decide +kernel
theorem dX11_text_51 : decode cX11_text 51 = .ok (.if_icmp .ne 66, 3) := by decide +kernel
theorem dX11_text_54 : decode cX11_text 54 = .ok (.aload_n 0, 1) := by decide +kernel
theorem dX11_text_55 : decode cX11_text 55 = .ok (.getfield 98, 3) := by decide +kernel
theorem dX11_text_58 : decode cX11_text 58 = .ok (.iconst 4, 1) := by decide +kernel
theorem dX11_text_59 : decode cX11_text 59 = .ok (.if_icmp .ge 58, 3) := by decide +kernel
theorem dX11_text_62 : decode cX11_text 62 = .ok (.aload_n 0, 1) := by decide +kernel
theorem dX11_text_63 : decode cX11_text 63 = .ok (.getfield 28, 3) := by decide +kernel
theorem dX11_text_66 : decode cX11_text 66 = .ok (.invokevirtual 128, 3) := by decide +kernel
theorem dX11_text_69 : decode cX11_text 69 = .ok (.iconst (-1), 1) := by decide +kernel
theorem dX11_text_70 : decode cX11_text 70 = .ok (.if_icmp .ne 47, 3) := by decide +kernel
theorem dX11_text_73 : decode cX11_text 73 = .ok (.aload_n 0, 1) := by decide +kernel
theorem dX11_text_74 : decode cX11_text 74 = .ok (.getfield 34, 3) := by decide +kernel
theorem dX11_text_77 : decode cX11_text 77 = .ok (.aload_n 0, 1) := by decide +kernel
theorem dX11_text_78 : decode cX11_text 78 = .ok (.getfield 98, 3) := by decide +kernel
theorem dX11_text_81 : decode cX11_text 81 = .ok (.aaload, 1) := by decide +kernel
theorem dX11_text_82 : decode cX11_text 82 = .ok (.aload_n 0, 1) := by decide +kernel
theorem dX11_text_83 : decode cX11_text 83 = .ok (.getfield 28, 3) := by decide +kernel
theorem dX11_text_86 : decode cX11_text 86 = .ok (.getfield 141, 3) := by decide +kernel
theorem dX11_text_89 : decode cX11_text 89 = .ok (.invokevirtual 144, 3) := by decide +kernel
theorem dX11_text_92 : decode cX11_text 92 = .ok (.aload_n 0, 1) := by decide +kernel
theorem dX11_text_93 : decode cX11_text 93 = .ok (.getfield 10, 3) := by decide +kernel
theorem dX11_text_96 : decode cX11_text 96 = .ok (.iconst 0, 1) := by decide +kernel
theorem dX11_text_97 : decode cX11_text 97 = .ok (.putfield 117, 3) := by decide +kernel
theorem dX11_text_100 : decode cX11_text 100 = .ok (.aload_n 0, 1) := by decide +kernel
theorem dX11_text_101 : decode cX11_text 101 = .ok (.dup, 1) := by decide +kernel
theorem dX11_text_102 : decode cX11_text 102 = .ok (.getfield 98, 3) := by decide +kernel
theorem dX11_text_105 : decode cX11_text 105 = .ok (.iconst 1, 1) := by decide +kernel
theorem dX11_text_106 : decode cX11_text 106 = .ok (.iadd, 1) := by decide +kernel
theorem dX11_text_107 : decode cX11_text 107 = .ok (.putfield 98, 3) := by decide +kernel
theorem dX11_text_110 : decode cX11_text 110 = .ok (.aload_n 0, 1) := by decide +kernel
theorem dX11_text_111 : decode cX11_text 111 = .ok (.getfield 98, 3) := by decide +kernel
theorem dX11_text_114 : decode cX11_text 114 = .ok (.iconst 1, 1) := by decide +kernel
theorem dX11_text_115 : decode cX11_text 115 = .ok (.isub, 1) := by decide +kernel
theorem dX11_text_116 : decode cX11_text 116 = .ok (.ireturn, 1) := by decide +kernel
theorem dX11_text_117 : decode cX11_text 117 = .ok (.iconst (-1), 1) := by decide +kernel
theorem dX11_text_118 : decode cX11_text 118 = .ok (.ireturn, 1) := by decide +kernel
set_option maxRecDepth 100000 in
theorem gC_X11_141_8 {Q : Option AV → Mm → Prop} {K : KT} {cc : ByteArray} {nL d : Nat} {ret : Option FieldType} {pc n : Nat} {ls : List (Option AV)} {st : List AV} {μ : Mm} (hO : KOk PC Q K cc RX11 nL d ret) (hd : decode cc pc = .ok (.getfield 141, 3)) (hn : pc + 3 = n) (kk : AW K n ls (vR 9 :: st) μ) : AW K pc ls (vR 8 :: st) μ := aw_getN (f := 1) hO hd hn okX5 (by decide) (lw_t1n 133 rfl rfl) (by decide) rfl rfl rfl kk
set_option maxRecDepth 100000 in
theorem pC_X11_98_0 {Q : Option AV → Mm → Prop} {K : KT} {cc : ByteArray} {nL d : Nat} {ret : Option FieldType} {pc n : Nat} {ls : List (Option AV)} {st : List AV} {μ : Mm} {a : Int} (hO : KOk PC Q K cc RX11 nL d ret) (hd : decode cc pc = .ok (.putfield 98, 3)) (hn : pc + 3 = n) (kk : AW K n ls st (mst μ 0 13 a)) : AW K pc ls (vI a :: vR 0 :: st) μ := aw_put (f := 13) hO hd hn okX11 tyX11_ok nmX11 (by decide) (lw_t2 58 rfl rfl) rfl rfl rfl (by decide) rfl rfl kk
set_option maxRecDepth 100000 in
theorem gC_X11_129_4 {Q : Option AV → Mm → Prop} {K : KT} {cc : ByteArray} {nL d : Nat} {ret : Option FieldType} {pc n : Nat} {ls : List (Option AV)} {st : List AV} {μ : Mm} (hO : KOk PC Q K cc RX11 nL d ret) (hd : decode cc pc = .ok (.getfield 129, 3)) (hn : pc + 3 = n) (kk : AW K n ls (vR 5 :: st) μ) : AW K pc ls (vR 4 :: st) μ := aw_getN (f := 1) hO hd hn okX10 (by decide) (lw_t1n 99 rfl rfl) (by decide) rfl rfl rfl kk
set_option maxHeartbeats 4000000 in
set_option maxRecDepth 100000 in
theorem cP_text {μ ν : Mm} (h : Rel μ ν) {n : Nat} (hn : ν.1 0 13 = (n : Int)) {v : Int} (hv : InR v) : CtE PC 22 yX11_text cX11_text 2 (some .int) [vR 0, vI v] μ (fun r m => ∀ r0 m0, (∀ q s, v = 0 → pTown (gM ν) = (q, some s) → r0 = (s.2.1.1 : Int) ∧ ∃ m1, Fr sT ν m1 ∧ RG m1 ∧ TM m1 s ∧ m0 = takM (mst m1 0 2 0)) ∧ (∀ q l, v = 1 → n < 4 → pLaw (gM ν) = (q, some l) → r0 = (n : Int) ∧ ∃ m1, Fr (sL n) ν m1 ∧ m1.1 0 14 = (n : Int) ∧ CF m1 n l ∧ Row m1 n (cat l) ∧ m0 = mst (mst m1 0 2 0) 0 13 ((n : Int) + 1)) ∧ (¬ (v = 0 ∧ ∃ q s, pTown (gM ν) = (q, some s)) → ¬ (v = 1 ∧ n < 4 ∧ ∃ q l, pLaw (gM ν) = (q, some l)) → r0 = -1 ∧ RG m0 ∧ Fr (sF n) ν m0 ∧ 0 ≤ m0.1 0 14 ∧ m0.1 0 14 ≤ 4) → r = r0 ∧ Rel m m0) := by
  refine ct_intro [some (vR 0), some (vI v)] RX11 (by decide) rfl XCo rfl (Nat.le_of_ble_eq_true rfl) (fun K hO => ?_)
  obtain ⟨c, hc, hlc1, hlc2, hl3, hl4, hl5⟩ := h.L
  obtain ⟨N, hN, hN1, hN2, hN3⟩ := h.P
  obtain ⟨a, x, ha, hx, ha1, ha2, ha3, ha4⟩ := h.A
  have hnp := h.B.np
  have hnt := h.B.nt
  have hr := h.B.now.rest
  have hN15 := h.N.2.1
  obtain ⟨N0, τ, hTC, hPT⟩ := h.tc
  have hG := hTC.1
  have hLob : c < 4 → Lob (13 + 3 * c) := fun hc => by unfold Lob; omega
  refine aw_iload_n hO dX11_text_0 rfl rfl ?_
  refine aw_if_ne (tgt := 49) hO dX11_text_1 rfl rfl hv (fun c1 => ?_) (fun c1 => ?_)
  · refine aw_iload_n hO dX11_text_49 rfl rfl ?_
    refine aw_iconst hO dX11_text_50 rfl ?_
    refine aw_icmp_ne (tgt := 117) hO dX11_text_51 rfl rfl hv (inRlit _) (fun c51 => ?_) (fun c51 => ?_)
    · refine aw_iconst hO dX11_text_117 rfl ?_
      refine aw_iret hO dX11_text_118 ?_
      exact ⟨_, rfl, fun r0 m0 hp => by
        obtain ⟨z1, z2, z3, z4⟩ := hp.2.2 (fun z => c1 z.1) (fun z => c51 z.1)
        exact ⟨z1.symm, h.fail (QF.rf) (c := n) (by omega) z2 z3 z4⟩⟩
    · refine aw_aload_n hO dX11_text_54 rfl rfl ?_
      refine gC_X11_98_0 hO dX11_text_55 rfl ?_
      refine aw_cg hlc1 ?_
      refine aw_iconst hO dX11_text_58 rfl ?_
      refine aw_icmp_ge (tgt := 117) hO dX11_text_59 rfl rfl (inRn (by omega)) (inRlit _) (fun c59 => ?_) (fun c59 => ?_)
      · refine aw_iconst hO dX11_text_117 rfl ?_
        refine aw_iret hO dX11_text_118 ?_
        exact ⟨_, rfl, fun r0 m0 hp => by
          obtain ⟨z1, z2, z3, z4⟩ := hp.2.2 (fun z => c1 z.1) (fun z => by have := z.2.1; omega)
          exact ⟨z1.symm, h.fail (QF.rf) (c := n) (by omega) z2 z3 z4⟩⟩
      · refine aw_aload_n hO dX11_text_62 rfl rfl ?_
        refine gC_X11_28_0 hO dX11_text_63 rfl ?_
        refine aw_callVE (as := []) (st := []) hO dX11_text_66 rfl (lw_t3 7 rfl rfl) kX5_read (T := TX5) rfl (by decide) rfl (cT_readLaw hTC) (by decide) rfl rfl rfl (Nat.le_of_ble_eq_true rfl) (fun v1 μ2 hq3 => ?_)
        obtain ⟨hF_μ2, e_v1, hs_μ2⟩ := hq3
        have hpg := (pLaw_G hG).1
        have hvr : -1 ≤ v1 ∧ v1 ≤ 240 := by
          rw [e_v1]
          rcases hx : pLaw (gM ν) with ⟨q, _ | s⟩
          · rw [faultV_n rfl]; have := hpg q hx; have := hG.1; omega
          · rw [faultV_s rfl]; omega
        refine aw_iconst hO dX11_text_69 rfl ?_
        refine aw_icmp_ne (tgt := 117) hO dX11_text_70 rfl rfl ⟨by omega, by omega⟩ (inRlit _) (fun c70 => ?_) (fun c70 => ?_)
        · have hno : ¬ ∃ q l, pLaw (gM ν) = (q, some l) := fun ⟨q, s, hx⟩ => c70 (by rw [e_v1, faultV_s hx])
          refine aw_iconst hO dX11_text_117 rfl ?_
          refine aw_iret hO dX11_text_118 ?_
          exact ⟨_, rfl, fun r0 m0 hp => by
            obtain ⟨z1, z2, z3, z4⟩ := hp.2.2 (fun z => c1 z.1) (fun z => hno z.2.2)
            exact ⟨z1.symm, h.fail (QF.l hF_μ2) (c := n) (by omega) z2 z3 z4⟩⟩
        · obtain ⟨q, l, hx⟩ : ∃ q l, pLaw (gM ν) = (q, some l) := by
            rcases hx : pLaw (gM ν) with ⟨q, _ | s⟩
            · rw [e_v1, faultV_n hx] at c70; omega
            · exact ⟨q, s, rfl⟩
          obtain ⟨hsD, hsl, hsw⟩ := hs_μ2 q l hx
          have hpl := (pLaw_G hG).2 q l hx
          refine aw_aload_n hO dX11_text_73 rfl rfl ?_
          refine gC_X11_34_0 hO dX11_text_74 rfl ?_
          refine aw_aload_n hO dX11_text_77 rfl rfl ?_
          refine gC_X11_98_0 hO dX11_text_78 rfl ?_
          refine aw_cg (show μ2.1 0 13 = ((c : Nat) : Int) by rw [hF_μ2.1 0 13 (by unfold lS dS tS; omega)]; exact hlc1) ?_
          refine aw_aald (i := c) hO dX11_text_81 rfl (by decide) rfl (by decide) rfl (by omega) ?_
          refine aw_aload_n hO dX11_text_82 rfl rfl ?_
          refine gC_X11_28_0 hO dX11_text_83 rfl ?_
          refine gC_X11_141_8 hO dX11_text_86 rfl ?_
          refine aw_callVV (as := [vR 9]) (st := []) hO dX11_text_89 rfl (lw_t3 87 rfl rfl) kX4_copyFrom (T := TX4) rfl (hLob (by omega)).o.1 (hLob (by omega)).o.2 (cT_lcopy (k := 13 + 3 * c) (hLob (by omega)) hsD hsl) (by decide) rfl rfl rfl (Nat.le_of_ble_eq_true rfl) (fun μ5 hq6 => ?_)
          have e_μ5 := hq6
          refine aw_aload_n hO dX11_text_92 rfl rfl ?_
          refine gC_X11_10_0 hO dX11_text_93 rfl ?_
          refine aw_iconst hO dX11_text_96 rfl ?_
          refine pC_X11_117_1 hO dX11_text_97 rfl ?_
          refine aw_mm (fun μ7 e_μ7 => ?_)
          have h13 : μ7.1 0 13 = ((c : Nat) : Int) := by rw [e_μ7, mst_nk (by decide), e_μ5, mst_nk (by omega), mcp_nk (by omega), hF_μ2.1 0 13 (by unfold lS dS tS; omega)]; exact hlc1
          refine aw_aload_n hO dX11_text_100 rfl rfl ?_
          refine aw_dup hO dX11_text_101 rfl rfl ?_
          refine gC_X11_98_0 hO dX11_text_102 rfl ?_
          refine aw_cg (h13) ?_
          refine aw_iconst hO dX11_text_105 rfl ?_
          refine aw_iadd hO dX11_text_106 rfl ?_
          refine pC_X11_98_0 hO dX11_text_107 rfl ?_
          refine aw_mm (fun μ8 e_μ8 => ?_)
          have h13b : μ8.1 0 13 = (c : Int) + 1 := by rw [e_μ8, mst_eq]
          refine aw_aload_n hO dX11_text_110 rfl rfl ?_
          refine gC_X11_98_0 hO dX11_text_111 rfl ?_
          refine aw_cg (h13b) ?_
          refine aw_iconst hO dX11_text_114 rfl ?_
          refine aw_isub hO dX11_text_115 rfl ?_
          refine aw_iret hO dX11_text_116 ?_
          exact ⟨_, rfl, fun r0 m0 hp => by
            have hnc : n = c := by omega
            subst hnc
            obtain ⟨z1, n1, z2, z3, z4, z5, z6⟩ := hp.2.1 q l c51 (by omega) hx
            exact ⟨by rw [z1]; omega, h.lawIn hlc2 (by omega) ⟨hsl, hsw⟩ ⟨by omega, by omega⟩ hF_μ2 hsD (by rw [e_μ8, e_μ7, e_μ5]) z2 z3 z4 z5 z6⟩⟩
  · refine aw_aload_n hO dX11_text_4 rfl rfl ?_
    refine gC_X11_21_0 hO dX11_text_5 rfl ?_
    refine aw_callVE (as := []) (st := []) hO dX11_text_8 rfl (lw_t2 116 rfl rfl) kX10_read (T := TX10) rfl (by decide) rfl (cT_readTown hTC) (by decide) rfl rfl rfl (Nat.le_of_ble_eq_true rfl) (fun v9 μ10 hq11 => ?_)
    obtain ⟨hF_μ10, e_v9, hs_μ10⟩ := hq11
    have hpg := (pTown_G hG).1
    have hvr : -1 ≤ v9 ∧ v9 ≤ 240 := by
      rw [e_v9]
      rcases hx : pTown (gM ν) with ⟨q, _ | s⟩
      · rw [faultV_n rfl]; have := hpg q hx; have := hG.1; omega
      · rw [faultV_s rfl]; omega
    refine aw_iconst hO dX11_text_11 rfl ?_
    refine aw_icmp_ne (tgt := 49) hO dX11_text_12 rfl rfl ⟨by omega, by omega⟩ (inRlit _) (fun c12 => ?_) (fun c12 => ?_)
    · have hno : ¬ ∃ q s, pTown (gM ν) = (q, some s) := fun ⟨q, s, hx⟩ => c12 (by rw [e_v9, faultV_s hx])
      refine aw_iload_n hO dX11_text_49 rfl rfl ?_
      refine aw_iconst hO dX11_text_50 rfl ?_
      refine aw_icmp_ne (tgt := 117) hO dX11_text_51 rfl rfl hv (inRlit _) (fun c51 => ?_) (fun c51 => ?_)
      · refine aw_iconst hO dX11_text_117 rfl ?_
        refine aw_iret hO dX11_text_118 ?_
        exact ⟨_, rfl, fun r0 m0 hp => by
          obtain ⟨z1, z2, z3, z4⟩ := hp.2.2 (fun z => hno z.2) (fun z => by have := z.1; omega)
          exact ⟨z1.symm, h.fail (QF.r hF_μ10) (c := n) (by omega) z2 z3 z4⟩⟩
      · exact absurd c51 (by omega)
    · obtain ⟨q, s, hx⟩ : ∃ q s, pTown (gM ν) = (q, some s) := by
        rcases hx : pTown (gM ν) with ⟨q, _ | s⟩
        · rw [e_v9, faultV_n hx] at c12; omega
        · exact ⟨q, s, rfl⟩
      obtain ⟨hsT, hs5, hsW⟩ := hs_μ10 q s hx
      refine aw_aload_n hO dX11_text_15 rfl rfl ?_
      refine gC_X11_41_0 hO dX11_text_16 rfl ?_
      refine aw_aload_n hO dX11_text_19 rfl rfl ?_
      refine gC_X11_21_0 hO dX11_text_20 rfl ?_
      refine gC_X11_129_4 hO dX11_text_23 rfl ?_
      refine aw_callVV (as := [vR 5]) (st := []) hO dX11_text_26 rfl (lw_t3 57 rfl rfl) kX9_copyFrom (T := TX9) rfl (by decide) rfl (ctC_9_copyFrom μ10) (by decide) rfl rfl rfl (Nat.le_of_ble_eq_true rfl) (fun μ13 hq14 => ?_)
      have e_μ13 := hq14
      refine aw_aload_n hO dX11_text_29 rfl rfl ?_
      refine gC_X11_10_0 hO dX11_text_30 rfl ?_
      refine aw_iconst hO dX11_text_33 rfl ?_
      refine pC_X11_117_1 hO dX11_text_34 rfl ?_
      refine aw_mm (fun μ15 e_μ15 => ?_)
      have e3 : μ15 = mst (mst (mst (mcp μ10 26 6 0 0 48) 25 1 (μ10.1 5 1)) 25 2 (μ10.1 5 2)) 1 2 0 := by rw [e_μ15, e_μ13]
      have hT3 : μ15.1 25 2 = ((s.2.2.1 : Nat) : Int) := by rw [e3, mst_nk (by decide), mst_eq]; exact hs5.2
      refine aw_aload_n hO dX11_text_37 rfl rfl ?_
      refine aw_callVV (as := []) (st := []) hO dX11_text_38 rfl (lw_t3 62 rfl rfl) kX11_beginTown (T := TX11) rfl (by decide) rfl (cP_beginTown (T := s.2.2.1) hT3 hsW.2.2.1) (by decide) rfl rfl rfl (Nat.le_of_ble_eq_true rfl) (fun μ17 hq18 => ?_)
      obtain ⟨m4, m6, y1, y2, y3, y4, y5, y6, y7⟩ := hq18
      refine aw_aload_n hO dX11_text_41 rfl rfl ?_
      refine gC_X11_41_0 hO dX11_text_42 rfl ?_
      refine gC_X11_138_25 hO dX11_text_45 rfl ?_
      refine aw_cg (show μ17.1 25 1 = ((s.2.1.1 : Nat) : Int) by rw [y7, mst_nk (by decide), y3.1 25 1 (by unfold gS; omega), mst_nk (by decide), y1.1 25 1 (show ¬ 25 = 28 by decide), e3, mst_nk (by decide), mst_ni (by decide), mst_eq]; exact hs5.1) ?_
      refine aw_iret hO dX11_text_48 ?_
      exact ⟨_, rfl, fun r0 m0 hp => by
        obtain ⟨z1, n1, z2, z3, z4, z5⟩ := hp.1 q s c1 hx
        exact ⟨z1.symm, h.townIn hsW hF_μ10 hsT hs5 e3 y1 y2 y3 y4 y5 y6 y7 z2 z3 z4 z5⟩⟩
