/-! ## what the class is asked (2) -/
def QF (μ m : Mm) : Prop := Fq frC μ m ∧ m.2.2 = μ.2.2
theorem QF.rf {μ : Mm} : QF μ μ := ⟨Fq.rf, rfl⟩
theorem QF.j {μ m : Mm} (h : Fr jS μ m) : QF μ m := ⟨h.q.mono (fun k i e => jS_frC e), by rw [h.2]⟩
theorem QF.a {μ m : Mm} (h : Fr jA μ m) : QF μ m := ⟨h.q.mono (fun k i e => by unfold jA at e; unfold frC; omega), by rw [h.2]⟩
theorem QF.of {μ m : Mm} (h : Fr qS μ m) : QF μ m := ⟨h.q.mono (fun k i e => by unfold qS jS at e; unfold frC; omega), by rw [h.2]⟩
theorem QF.r {μ m : Mm} (h : Fr rS μ m) : QF μ m := ⟨h.q.mono (fun k i e => by unfold rS tS at e; unfold frC; omega), by rw [h.2]⟩
theorem QF.l {μ m : Mm} (h : Fr lS μ m) : QF μ m := ⟨h.q.mono (fun k i e => by unfold lS dS tS at e; unfold frC; omega), by rw [h.2]⟩
theorem QF.p {μ m : Mm} (h : Fr pS μ m) : QF μ m := ⟨h.q.mono (fun k i e => by unfold pS at e; unfold frC; omega), by rw [h.2]⟩
theorem Rel.qf {μ ν m n : Mm} (h : Rel μ ν) (hC : QF μ m) (hR : Scr ν n) : Rel m n := h.fr hC.1 hC.2 hR.q
theorem dX11_isPair_0 : decode cX11_isPair 0 = .ok (.iload_n 1, 1) := by decide +kernel
theorem dX11_isPair_1 : decode cX11_isPair 1 = .ok (.iload_n 2, 1) := by decide +kernel
theorem dX11_isPair_2 : decode cX11_isPair 2 = .ok (.if_icmp .eq 23, 3) := by decide +kernel
theorem dX11_isPair_5 : decode cX11_isPair 5 = .ok (.aload_n 0, 1) := by decide +kernel
theorem dX11_isPair_6 : decode cX11_isPair 6 = .ok (.iload_n 1, 1) := by decide +kernel
theorem dX11_isPair_7 : decode cX11_isPair 7 = .ok (.invokevirtual 271, 3) := by decide +kernel
theorem dX11_isPair_10 : decode cX11_isPair 10 = .ok (.ifCond .eq 15, 3) := by decide +kernel
theorem dX11_isPair_13 : decode cX11_isPair 13 = .ok (.aload_n 0, 1) := by decide +kernel
theorem dX11_isPair_14 : decode cX11_isPair 14 = .ok (.iload_n 2, 1) := by decide +kernel
theorem dX11_isPair_15 : decode cX11_isPair 15 = .ok (.invokevirtual 271, 3) := by decide +kernel
theorem dX11_isPair_18 : decode cX11_isPair 18 = .ok (.ifCond .eq 7, 3) := by decide +kernel
theorem dX11_isPair_21 : decode cX11_isPair 21 = .ok (.iconst 1, 1) := by decide +kernel
theorem dX11_isPair_22 : decode cX11_isPair 22 = .ok (.goto 4, 3) := by decide +kernel
theorem dX11_isPair_25 : decode cX11_isPair 25 = .ok (.iconst 0, 1) := by decide +kernel
theorem dX11_isPair_26 : decode cX11_isPair 26 = .ok (.ireturn, 1) := by decide +kernel
set_option maxHeartbeats 4000000 in
set_option maxRecDepth 100000 in
theorem cP_isPair {μ ν : Mm} (h : Rel μ ν) {v u : Int} (hv : InR v) (hu : InR u) [Decidable (twoP ν v u)] : CtI PC 2 yX11_isPair cX11_isPair 3 (some .boolean) [vR 0, vI v, vI u] μ (if twoP ν v u then 1 else 0) := by
  refine ct_intro [some (vR 0), some (vI v), some (vI u)] RX11 (by decide) rfl XCo rfl (Nat.le_of_ble_eq_true rfl) (fun K hO => ?_)
  obtain ⟨c, hc, hlc1, hlc2, hl3, hl4, hl5⟩ := h.L
  obtain ⟨N, hN, hN1, hN2, hN3⟩ := h.P
  obtain ⟨a, x, ha, hx, ha1, ha2, ha3, ha4⟩ := h.A
  have hnp := h.B.np
  have hnt := h.B.nt
  have hr := h.B.now.rest
  have hN15 := h.N.2.1
  refine aw_iload_n hO dX11_isPair_0 rfl rfl ?_
  refine aw_iload_n hO dX11_isPair_1 rfl rfl ?_
  refine aw_icmp_eq (tgt := 25) hO dX11_isPair_2 rfl rfl hv hu (fun c2 => ?_) (fun c2 => ?_)
  · refine aw_iconst hO dX11_isPair_25 rfl ?_
    refine aw_zret hO dX11_isPair_26 (Or.inl rfl) ?_
    exact rI (by rw [if_neg (fun z => z.2.2.1 c2)])
  · refine aw_aload_n hO dX11_isPair_5 rfl rfl ?_
    refine aw_iload_n hO dX11_isPair_6 rfl rfl ?_
    refine aw_callVI (as := [vI v]) (st := []) hO dX11_isPair_7 rfl (lw_t4 154 rfl rfl) kX11_isInTown (T := TX11) rfl (by decide) rfl (cP_isInTown h hv) (by decide) rfl rfl rfl (Nat.le_of_ble_eq_true rfl) ?_
    refine aw_ifz_eq (tgt := 25) hO dX11_isPair_10 rfl rfl (fun c10 => ?_) (fun c10 => ?_)
    · refine aw_iconst hO dX11_isPair_25 rfl ?_
      refine aw_zret hO dX11_isPair_26 (Or.inl rfl) ?_
      exact rI (by rw [if_neg (fun z => c10 ⟨z.1, z.2.2.2.1⟩)])
    · refine aw_aload_n hO dX11_isPair_13 rfl rfl ?_
      refine aw_iload_n hO dX11_isPair_14 rfl rfl ?_
      refine aw_callVI (as := [vI u]) (st := []) hO dX11_isPair_15 rfl (lw_t4 154 rfl rfl) kX11_isInTown (T := TX11) rfl (by decide) rfl (cP_isInTown h hu) (by decide) rfl rfl rfl (Nat.le_of_ble_eq_true rfl) ?_
      refine aw_ifz_eq (tgt := 25) hO dX11_isPair_18 rfl rfl (fun c18 => ?_) (fun c18 => ?_)
      · refine aw_iconst hO dX11_isPair_25 rfl ?_
        refine aw_zret hO dX11_isPair_26 (Or.inl rfl) ?_
        exact rI (by rw [if_neg (fun z => c18 ⟨z.2.1, z.2.2.2.2⟩)])
      · refine aw_iconst hO dX11_isPair_21 rfl ?_
        refine aw_goto (tgt := 26) hO dX11_isPair_22 rfl ?_
        refine aw_zret hO dX11_isPair_26 (Or.inr rfl) ?_
        exact rI (by rw [if_pos ⟨c10.1, c18.1, c2, c10.2, c18.2⟩])
theorem dX11_isGroup_0 : decode cX11_isGroup 0 = .ok (.iload_n 1, 1) := by decide +kernel
theorem dX11_isGroup_1 : decode cX11_isGroup 1 = .ok (.ifCond .le 18, 3) := by decide +kernel
theorem dX11_isGroup_4 : decode cX11_isGroup 4 = .ok (.iload_n 1, 1) := by decide +kernel
theorem dX11_isGroup_5 : decode cX11_isGroup 5 = .ok (.aload_n 0, 1) := by decide +kernel
theorem dX11_isGroup_6 : decode cX11_isGroup 6 = .ok (.getfield 41, 3) := by decide +kernel
theorem dX11_isGroup_9 : decode cX11_isGroup 9 = .ok (.invokevirtual 369, 3) := by decide +kernel
theorem dX11_isGroup_12 : decode cX11_isGroup 12 = .ok (.if_icmp .gt 7, 3) := by decide +kernel
theorem dX11_isGroup_15 : decode cX11_isGroup 15 = .ok (.iconst 1, 1) := by decide +kernel
theorem dX11_isGroup_16 : decode cX11_isGroup 16 = .ok (.goto 4, 3) := by decide +kernel
theorem dX11_isGroup_19 : decode cX11_isGroup 19 = .ok (.iconst 0, 1) := by decide +kernel
theorem dX11_isGroup_20 : decode cX11_isGroup 20 = .ok (.ireturn, 1) := by decide +kernel
set_option maxHeartbeats 4000000 in
set_option maxRecDepth 100000 in
theorem cP_isGroup {μ ν : Mm} (h : Rel μ ν) {v : Int} (hv : InR v) : CtI PC 1 yX11_isGroup cX11_isGroup 2 (some .boolean) [vR 0, vI v] μ (if 1 ≤ v ∧ v ≤ bShl 1 (ν.1 0 25) - 1 then 1 else 0) := by
  refine ct_intro [some (vR 0), some (vI v)] RX11 (by decide) rfl XCo rfl (Nat.le_of_ble_eq_true rfl) (fun K hO => ?_)
  obtain ⟨c, hc, hlc1, hlc2, hl3, hl4, hl5⟩ := h.L
  obtain ⟨N, hN, hN1, hN2, hN3⟩ := h.P
  obtain ⟨a, x, ha, hx, ha1, ha2, ha3, ha4⟩ := h.A
  have hnp := h.B.np
  have hnt := h.B.nt
  have hr := h.B.now.rest
  have hN15 := h.N.2.1
  have hev := evb_rng hnp.1 hnp.2
  refine aw_iload_n hO dX11_isGroup_0 rfl rfl ?_
  refine aw_if_le (tgt := 19) hO dX11_isGroup_1 rfl rfl hv (fun c1 => ?_) (fun c1 => ?_)
  · refine aw_iconst hO dX11_isGroup_19 rfl ?_
    refine aw_zret hO dX11_isGroup_20 (Or.inl rfl) ?_
    exact rI (by rw [if_neg (by omega)])
  · refine aw_iload_n hO dX11_isGroup_4 rfl rfl ?_
    refine aw_aload_n hO dX11_isGroup_5 rfl rfl ?_
    refine gC_X11_41_0 hO dX11_isGroup_6 rfl ?_
    refine aw_callVI (as := []) (st := [vI v]) hO dX11_isGroup_9 rfl (lw_t4 193 rfl rfl) kX9_allPersons (T := TX9) rfl (by decide) rfl (cJ_allPersons h.JR.z) (by decide) rfl rfl rfl (Nat.le_of_ble_eq_true rfl) ?_
    refine aw_icmp_gt (tgt := 19) hO dX11_isGroup_12 rfl rfl hv ⟨by omega, by omega⟩ (fun c12 => ?_) (fun c12 => ?_)
    · refine aw_iconst hO dX11_isGroup_19 rfl ?_
      refine aw_zret hO dX11_isGroup_20 (Or.inl rfl) ?_
      exact rI (by rw [if_neg (by omega)])
    · refine aw_iconst hO dX11_isGroup_15 rfl ?_
      refine aw_goto (tgt := 20) hO dX11_isGroup_16 rfl ?_
      refine aw_zret hO dX11_isGroup_20 (Or.inr rfl) ?_
      exact rI (by rw [if_pos (by omega)])
theorem dX11_appeal_0 : decode cX11_appeal 0 = .ok (.aload_n 0, 1) := by decide +kernel
theorem dX11_appeal_1 : decode cX11_appeal 1 = .ok (.getfield 41, 3) := by decide +kernel
theorem dX11_appeal_4 : decode cX11_appeal 4 = .ok (.iload_n 1, 1) := by decide +kernel
theorem dX11_appeal_5 : decode cX11_appeal 5 = .ok (.invokevirtual 164, 3) := by decide +kernel
theorem dX11_appeal_8 : decode cX11_appeal 8 = .ok (.ifCond .eq 18, 3) := by decide +kernel
theorem dX11_appeal_11 : decode cX11_appeal 11 = .ok (.aload_n 0, 1) := by decide +kernel
theorem dX11_appeal_12 : decode cX11_appeal 12 = .ok (.getfield 67, 3) := by decide +kernel
theorem dX11_appeal_15 : decode cX11_appeal 15 = .ok (.aload_n 0, 1) := by decide +kernel
theorem dX11_appeal_16 : decode cX11_appeal 16 = .ok (.getfield 48, 3) := by decide +kernel
theorem dX11_appeal_19 : decode cX11_appeal 19 = .ok (.iload_n 1, 1) := by decide +kernel
theorem dX11_appeal_20 : decode cX11_appeal 20 = .ok (.invokevirtual 268, 3) := by decide +kernel
theorem dX11_appeal_23 : decode cX11_appeal 23 = .ok (.goto 6, 3) := by decide +kernel
theorem dX11_appeal_26 : decode cX11_appeal 26 = .ok (.ldc_w 258, 3) := by decide +kernel
theorem dX11_appeal_29 : decode cX11_appeal 29 = .ok (.ireturn, 1) := by decide +kernel
set_option maxHeartbeats 4000000 in
set_option maxRecDepth 100000 in
theorem cP_appeal {μ ν : Mm} (h : Rel μ ν) {v : Int} (hv : InR v) : CtE PC 3 yX11_appeal cX11_appeal 2 (some .int) [vR 0, vI v] μ (fun r m => r = (if 0 ≤ v ∧ v < ν.1 0 25 then appealM ν v.toNat else -1000000) ∧ QF μ m) := by
  refine ct_intro [some (vR 0), some (vI v)] RX11 (by decide) rfl XCo rfl (Nat.le_of_ble_eq_true rfl) (fun K hO => ?_)
  obtain ⟨c, hc, hlc1, hlc2, hl3, hl4, hl5⟩ := h.L
  obtain ⟨N, hN, hN1, hN2, hN3⟩ := h.P
  obtain ⟨a, x, ha, hx, ha1, ha2, ha3, ha4⟩ := h.A
  have hnp := h.B.np
  have hnt := h.B.nt
  have hr := h.B.now.rest
  have hN15 := h.N.2.1
  refine aw_aload_n hO dX11_appeal_0 rfl rfl ?_
  refine gC_X11_41_0 hO dX11_appeal_1 rfl ?_
  refine aw_iload_n hO dX11_appeal_4 rfl rfl ?_
  refine aw_callVI (as := [vI v]) (st := []) hO dX11_appeal_5 rfl (lw_t3 170 rfl rfl) kX9_hasPerson (T := TX9) rfl (by decide) rfl (cJ_hasPerson h.JR.z hv) (by decide) rfl rfl rfl (Nat.le_of_ble_eq_true rfl) ?_
  refine aw_ifz_eq (tgt := 26) hO dX11_appeal_8 rfl rfl (fun c8 => ?_) (fun c8 => ?_)
  · refine aw_ldcw (a := (-1000000)) hO dX11_appeal_26 rfl (lw_t4 125 rfl rfl) ?_
    refine aw_iret hO dX11_appeal_29 ?_
    exact ⟨_, rfl, by rw [if_neg c8], QF.rf⟩
  · obtain ⟨p, hpe⟩ := Int.eq_ofNat_of_zero_le c8.1
    subst hpe
    refine aw_aload_n hO dX11_appeal_11 rfl rfl ?_
    refine gC_X11_67_0 hO dX11_appeal_12 rfl ?_
    refine aw_aload_n hO dX11_appeal_15 rfl rfl ?_
    refine gC_X11_48_0 hO dX11_appeal_16 rfl ?_
    refine aw_iload_n hO dX11_appeal_19 rfl rfl ?_
    refine aw_callVE (as := [vR 27, vI ((p : Nat) : Int)]) (st := []) hO dX11_appeal_20 rfl (lw_t4 149 rfl rfl) kX3_appealOf (T := TX3) rfl (by decide) rfl (cJ_appealOf h.JR (p := p) (by omega)) (by decide) rfl rfl rfl (Nat.le_of_ble_eq_true rfl) (fun v1 μ2 hq3 => ?_)
    obtain ⟨e_v1, hF_μ2⟩ := hq3
    refine aw_goto (tgt := 29) hO dX11_appeal_23 rfl ?_
    refine aw_iret hO dX11_appeal_29 ?_
    exact ⟨_, rfl, by rw [if_pos c8, e_v1]; rfl, QF.a hF_μ2⟩
theorem dX11_first_0 : decode cX11_first 0 = .ok (.aload_n 0, 1) := by decide +kernel
theorem dX11_first_1 : decode cX11_first 1 = .ok (.getfield 41, 3) := by decide +kernel
theorem dX11_first_4 : decode cX11_first 4 = .ok (.iload_n 1, 1) := by decide +kernel
theorem dX11_first_5 : decode cX11_first 5 = .ok (.invokevirtual 164, 3) := by decide +kernel
theorem dX11_first_8 : decode cX11_first 8 = .ok (.ifCond .eq 18, 3) := by decide +kernel
theorem dX11_first_11 : decode cX11_first 11 = .ok (.aload_n 0, 1) := by decide +kernel
theorem dX11_first_12 : decode cX11_first 12 = .ok (.getfield 83, 3) := by decide +kernel
theorem dX11_first_15 : decode cX11_first 15 = .ok (.aload_n 0, 1) := by decide +kernel
theorem dX11_first_16 : decode cX11_first 16 = .ok (.getfield 48, 3) := by decide +kernel
theorem dX11_first_19 : decode cX11_first 19 = .ok (.iload_n 1, 1) := by decide +kernel
theorem dX11_first_20 : decode cX11_first 20 = .ok (.invokevirtual 339, 3) := by decide +kernel
theorem dX11_first_23 : decode cX11_first 23 = .ok (.goto 4, 3) := by decide +kernel
theorem dX11_first_26 : decode cX11_first 26 = .ok (.iconst (-1), 1) := by decide +kernel
theorem dX11_first_27 : decode cX11_first 27 = .ok (.ireturn, 1) := by decide +kernel
set_option maxRecDepth 100000 in
theorem gC_X11_83_0 {Q : Option AV → Mm → Prop} {K : KT} {cc : ByteArray} {nL d : Nat} {ret : Option FieldType} {pc n : Nat} {ls : List (Option AV)} {st : List AV} {μ : Mm} (hO : KOk PC Q K cc RX11 nL d ret) (hd : decode cc pc = .ok (.getfield 83, 3)) (hn : pc + 3 = n) (kk : AW K n ls (vR 77 :: st) μ) : AW K pc ls (vR 0 :: st) μ := aw_get (f := 10) hO hd hn okX11 (by decide) (lw_t2 55 rfl rfl) (by decide) rfl rfl rfl kk
set_option maxHeartbeats 4000000 in
set_option maxRecDepth 100000 in
theorem cP_first {μ ν : Mm} (h : Rel μ ν) {v : Int} (hv : InR v) : CtE PC 6 yX11_first cX11_first 2 (some .int) [vR 0, vI v] μ (fun r m => r = (if 0 ≤ v ∧ v < ν.1 0 25 then fsM ν v.toNat 60 else -1) ∧ QF μ m) := by
  refine ct_intro [some (vR 0), some (vI v)] RX11 (by decide) rfl XCo rfl (Nat.le_of_ble_eq_true rfl) (fun K hO => ?_)
  obtain ⟨c, hc, hlc1, hlc2, hl3, hl4, hl5⟩ := h.L
  obtain ⟨N, hN, hN1, hN2, hN3⟩ := h.P
  obtain ⟨a, x, ha, hx, ha1, ha2, ha3, ha4⟩ := h.A
  have hnp := h.B.np
  have hnt := h.B.nt
  have hr := h.B.now.rest
  have hN15 := h.N.2.1
  refine aw_aload_n hO dX11_first_0 rfl rfl ?_
  refine gC_X11_41_0 hO dX11_first_1 rfl ?_
  refine aw_iload_n hO dX11_first_4 rfl rfl ?_
  refine aw_callVI (as := [vI v]) (st := []) hO dX11_first_5 rfl (lw_t3 170 rfl rfl) kX9_hasPerson (T := TX9) rfl (by decide) rfl (cJ_hasPerson h.JR.z hv) (by decide) rfl rfl rfl (Nat.le_of_ble_eq_true rfl) ?_
  refine aw_ifz_eq (tgt := 26) hO dX11_first_8 rfl rfl (fun c8 => ?_) (fun c8 => ?_)
  · refine aw_iconst hO dX11_first_26 rfl ?_
    refine aw_iret hO dX11_first_27 ?_
    exact ⟨_, rfl, by rw [if_neg c8], QF.rf⟩
  · obtain ⟨p, hpe⟩ := Int.eq_ofNat_of_zero_le c8.1
    subst hpe
    refine aw_aload_n hO dX11_first_11 rfl rfl ?_
    refine gC_X11_83_0 hO dX11_first_12 rfl ?_
    refine aw_aload_n hO dX11_first_15 rfl rfl ?_
    refine gC_X11_48_0 hO dX11_first_16 rfl ?_
    refine aw_iload_n hO dX11_first_19 rfl rfl ?_
    refine aw_callVE (as := [vR 27, vI ((p : Nat) : Int)]) (st := []) hO dX11_first_20 rfl (lw_t5 77 rfl rfl) kX6_firstOf (T := TX6) rfl (by decide) rfl (cJ_firstOf h.JR h.S.2.2.2.1 (p := p) (by omega)) (by decide) rfl rfl rfl (Nat.le_of_ble_eq_true rfl) (fun v1 μ2 hq3 => ?_)
    obtain ⟨e_v1, hF_μ2⟩ := hq3
    refine aw_goto (tgt := 27) hO dX11_first_23 rfl ?_
    refine aw_iret hO dX11_first_27 ?_
    exact ⟨_, rfl, by rw [if_pos c8, e_v1]; rfl, QF.j hF_μ2⟩
theorem dX11_lead_0 : decode cX11_lead 0 = .ok (.aload_n 0, 1) := by decide +kernel
theorem dX11_lead_1 : decode cX11_lead 1 = .ok (.iload_n 1, 1) := by decide +kernel
theorem dX11_lead_2 : decode cX11_lead 2 = .ok (.invokevirtual 271, 3) := by decide +kernel
theorem dX11_lead_5 : decode cX11_lead 5 = .ok (.ifCond .eq 14, 3) := by decide +kernel
theorem dX11_lead_8 : decode cX11_lead 8 = .ok (.aload_n 0, 1) := by decide +kernel
theorem dX11_lead_9 : decode cX11_lead 9 = .ok (.getfield 48, 3) := by decide +kernel
theorem dX11_lead_12 : decode cX11_lead 12 = .ok (.iload_n 1, 1) := by decide +kernel
theorem dX11_lead_13 : decode cX11_lead 13 = .ok (.invokevirtual 182, 3) := by decide +kernel
theorem dX11_lead_16 : decode cX11_lead 16 = .ok (.ifCond .ne 7, 3) := by decide +kernel
theorem dX11_lead_19 : decode cX11_lead 19 = .ok (.ldc_w 258, 3) := by decide +kernel
theorem dX11_lead_22 : decode cX11_lead 22 = .ok (.ireturn, 1) := by decide +kernel
theorem dX11_lead_23 : decode cX11_lead 23 = .ok (.aload_n 0, 1) := by decide +kernel
theorem dX11_lead_24 : decode cX11_lead 24 = .ok (.getfield 83, 3) := by decide +kernel
theorem dX11_lead_27 : decode cX11_lead 27 = .ok (.aload_n 0, 1) := by decide +kernel
theorem dX11_lead_28 : decode cX11_lead 28 = .ok (.getfield 48, 3) := by decide +kernel
theorem dX11_lead_31 : decode cX11_lead 31 = .ok (.iload_n 1, 1) := by decide +kernel
theorem dX11_lead_32 : decode cX11_lead 32 = .ok (.invokevirtual 274, 3) := by decide +kernel
theorem dX11_lead_35 : decode cX11_lead 35 = .ok (.ireturn, 1) := by decide +kernel
set_option maxHeartbeats 4000000 in
set_option maxRecDepth 100000 in
theorem cP_lead {μ ν : Mm} (h : Rel μ ν) {v : Int} (hv : InR v) : CtE PC 5 yX11_lead cX11_lead 2 (some .int) [vR 0, vI v] μ (fun r m => r = (if (0 ≤ v ∧ v < ν.1 0 25) ∧ mayM ν v.toNat = true then (if leadX ν v (ν.1 0 25).toNat = -1000000 then 99 else appealM ν v.toNat - leadX ν v (ν.1 0 25).toNat) else -1000000) ∧ QF μ m) := by
  refine ct_intro [some (vR 0), some (vI v)] RX11 (by decide) rfl XCo rfl (Nat.le_of_ble_eq_true rfl) (fun K hO => ?_)
  obtain ⟨c, hc, hlc1, hlc2, hl3, hl4, hl5⟩ := h.L
  obtain ⟨N, hN, hN1, hN2, hN3⟩ := h.P
  obtain ⟨a, x, ha, hx, ha1, ha2, ha3, ha4⟩ := h.A
  have hnp := h.B.np
  have hnt := h.B.nt
  have hr := h.B.now.rest
  have hN15 := h.N.2.1
  refine aw_aload_n hO dX11_lead_0 rfl rfl ?_
  refine aw_iload_n hO dX11_lead_1 rfl rfl ?_
  refine aw_callVI (as := [vI v]) (st := []) hO dX11_lead_2 rfl (lw_t4 154 rfl rfl) kX11_isInTown (T := TX11) rfl (by decide) rfl (cP_isInTown h hv) (by decide) rfl rfl rfl (Nat.le_of_ble_eq_true rfl) ?_
  refine aw_ifz_eq (tgt := 19) hO dX11_lead_5 rfl rfl (fun c5 => ?_) (fun c5 => ?_)
  · refine aw_ldcw (a := (-1000000)) hO dX11_lead_19 rfl (lw_t4 125 rfl rfl) ?_
    refine aw_iret hO dX11_lead_22 ?_
    exact ⟨_, rfl, by rw [if_neg (fun z => c5 ⟨z.1, by have := z.2; unfold mayM at this; simp only [Bool.and_eq_true, Bool.not_eq_true'] at this; exact this.1⟩)], QF.rf⟩
  · obtain ⟨p, hpe⟩ := Int.eq_ofNat_of_zero_le c5.1.1
    subst hpe
    have hmt := h.B.now.met (p := p) (by omega)
    have hc52 := c5.2
    rw [Int.toNat_natCast] at hc52
    refine aw_aload_n hO dX11_lead_8 rfl rfl ?_
    refine gC_X11_48_0 hO dX11_lead_9 rfl ?_
    refine aw_iload_n hO dX11_lead_12 rfl rfl ?_
    refine aw_callVI (as := [vI ((p : Nat) : Int)]) (st := []) hO dX11_lead_13 rfl (lw_t4 158 rfl rfl) kX7_meetings (T := TX7) rfl (by decide) rfl (cJ_meetings h.JR.ob h.JR.S (p := p) (by omega)) (by decide) rfl rfl rfl (Nat.le_of_ble_eq_true rfl) ?_
    refine aw_if_ne (tgt := 23) hO dX11_lead_16 rfl rfl ⟨by omega, by omega⟩ (fun c16 => ?_) (fun c16 => ?_)
    · refine aw_aload_n hO dX11_lead_23 rfl rfl ?_
      refine gC_X11_83_0 hO dX11_lead_24 rfl ?_
      refine aw_aload_n hO dX11_lead_27 rfl rfl ?_
      refine gC_X11_48_0 hO dX11_lead_28 rfl ?_
      refine aw_iload_n hO dX11_lead_31 rfl rfl ?_
      refine aw_callVE (as := [vR 27, vI ((p : Nat) : Int)]) (st := []) hO dX11_lead_32 rfl (lw_t4 159 rfl rfl) kX6_leadOf (T := TX6) rfl (by decide) rfl (cJ_leadOf h.JR (p := p) (by omega)) (by decide) rfl rfl rfl (Nat.le_of_ble_eq_true rfl) (fun v1 μ2 hq3 => ?_)
      obtain ⟨e_v1, hF_μ2⟩ := hq3
      refine aw_iret hO dX11_lead_35 ?_
      exact ⟨_, rfl, by rw [if_pos ⟨c5.1, by unfold mayM; rw [Int.toNat_natCast, hc52]; simp; omega⟩, e_v1]; rfl, QF.j hF_μ2⟩
    · refine aw_ldcw (a := (-1000000)) hO dX11_lead_19 rfl (lw_t4 125 rfl rfl) ?_
      refine aw_iret hO dX11_lead_22 ?_
      exact ⟨_, rfl, by rw [if_neg (fun z => by have := z.2; unfold mayM at this; rw [Int.toNat_natCast, c16] at this; simp at this)], QF.rf⟩
theorem dX11_feigning_0 : decode cX11_feigning 0 = .ok (.aload_n 0, 1) := by decide +kernel
theorem dX11_feigning_1 : decode cX11_feigning 1 = .ok (.iload_n 1, 1) := by decide +kernel
theorem dX11_feigning_2 : decode cX11_feigning 2 = .ok (.invokevirtual 271, 3) := by decide +kernel
theorem dX11_feigning_5 : decode cX11_feigning 5 = .ok (.ifCond .eq 18, 3) := by decide +kernel
theorem dX11_feigning_8 : decode cX11_feigning 8 = .ok (.aload_n 0, 1) := by decide +kernel
theorem dX11_feigning_9 : decode cX11_feigning 9 = .ok (.getfield 83, 3) := by decide +kernel
theorem dX11_feigning_12 : decode cX11_feigning 12 = .ok (.aload_n 0, 1) := by decide +kernel
theorem dX11_feigning_13 : decode cX11_feigning 13 = .ok (.getfield 48, 3) := by decide +kernel
theorem dX11_feigning_16 : decode cX11_feigning 16 = .ok (.iload_n 1, 1) := by decide +kernel
theorem dX11_feigning_17 : decode cX11_feigning 17 = .ok (.invokevirtual 277, 3) := by decide +kernel
theorem dX11_feigning_20 : decode cX11_feigning 20 = .ok (.goto 4, 3) := by decide +kernel
theorem dX11_feigning_23 : decode cX11_feigning 23 = .ok (.iconst (-1), 1) := by decide +kernel
theorem dX11_feigning_24 : decode cX11_feigning 24 = .ok (.ireturn, 1) := by decide +kernel
set_option maxHeartbeats 4000000 in
set_option maxRecDepth 100000 in
theorem cP_feigning {μ ν : Mm} (h : Rel μ ν) {v : Int} (hv : InR v) : CtE PC 5 yX11_feigning cX11_feigning 2 (some .int) [vR 0, vI v] μ (fun r m => r = (if (0 ≤ v ∧ v < ν.1 0 25) ∧ hasB (ν.1 17 31) v.toNat = false then fgM ν v.toNat else -1) ∧ QF μ m) := by
  refine ct_intro [some (vR 0), some (vI v)] RX11 (by decide) rfl XCo rfl (Nat.le_of_ble_eq_true rfl) (fun K hO => ?_)
  obtain ⟨c, hc, hlc1, hlc2, hl3, hl4, hl5⟩ := h.L
  obtain ⟨N, hN, hN1, hN2, hN3⟩ := h.P
  obtain ⟨a, x, ha, hx, ha1, ha2, ha3, ha4⟩ := h.A
  have hnp := h.B.np
  have hnt := h.B.nt
  have hr := h.B.now.rest
  have hN15 := h.N.2.1
  refine aw_aload_n hO dX11_feigning_0 rfl rfl ?_
  refine aw_iload_n hO dX11_feigning_1 rfl rfl ?_
  refine aw_callVI (as := [vI v]) (st := []) hO dX11_feigning_2 rfl (lw_t4 154 rfl rfl) kX11_isInTown (T := TX11) rfl (by decide) rfl (cP_isInTown h hv) (by decide) rfl rfl rfl (Nat.le_of_ble_eq_true rfl) ?_
  refine aw_ifz_eq (tgt := 23) hO dX11_feigning_5 rfl rfl (fun c5 => ?_) (fun c5 => ?_)
  · refine aw_iconst hO dX11_feigning_23 rfl ?_
    refine aw_iret hO dX11_feigning_24 ?_
    exact ⟨_, rfl, by rw [if_neg c5], QF.rf⟩
  · obtain ⟨p, hpe⟩ := Int.eq_ofNat_of_zero_le c5.1.1
    subst hpe
    refine aw_aload_n hO dX11_feigning_8 rfl rfl ?_
    refine gC_X11_83_0 hO dX11_feigning_9 rfl ?_
    refine aw_aload_n hO dX11_feigning_12 rfl rfl ?_
    refine gC_X11_48_0 hO dX11_feigning_13 rfl ?_
    refine aw_iload_n hO dX11_feigning_16 rfl rfl ?_
    refine aw_callVE (as := [vR 27, vI ((p : Nat) : Int)]) (st := []) hO dX11_feigning_17 rfl (lw_t4 171 rfl rfl) kX6_leastFeigning (T := TX6) rfl (by decide) rfl (cJ_leastFeigning h.JR (p := p) (by omega)) (by decide) rfl rfl rfl (Nat.le_of_ble_eq_true rfl) (fun v1 μ2 hq3 => ?_)
    obtain ⟨e_v1, hF_μ2⟩ := hq3
    refine aw_goto (tgt := 24) hO dX11_feigning_20 rfl ?_
    refine aw_iret hO dX11_feigning_24 ?_
    exact ⟨_, rfl, by rw [if_pos c5, e_v1]; rfl, QF.of hF_μ2⟩
theorem dX11_odds_0 : decode cX11_odds 0 = .ok (.aload_n 0, 1) := by decide +kernel
theorem dX11_odds_1 : decode cX11_odds 1 = .ok (.getfield 41, 3) := by decide +kernel
theorem dX11_odds_4 : decode cX11_odds 4 = .ok (.iload_n 1, 1) := by decide +kernel
theorem dX11_odds_5 : decode cX11_odds 5 = .ok (.invokevirtual 164, 3) := by decide +kernel
theorem dX11_odds_8 : decode cX11_odds 8 = .ok (.ifCond .eq 13, 3) := by decide +kernel
theorem dX11_odds_11 : decode cX11_odds 11 = .ok (.iload_n 2, 1) := by decide +kernel
theorem dX11_odds_12 : decode cX11_odds 12 = .ok (.ifCond .lt 9, 3) := by decide +kernel
theorem dX11_odds_15 : decode cX11_odds 15 = .ok (.iload_n 2, 1) := by decide +kernel
theorem dX11_odds_16 : decode cX11_odds 16 = .ok (.bipush 100, 2) := by decide +kernel
theorem dX11_odds_18 : decode cX11_odds 18 = .ok (.if_icmp .le 5, 3) := by decide +kernel
theorem dX11_odds_21 : decode cX11_odds 21 = .ok (.iconst (-1), 1) := by decide +kernel
theorem dX11_odds_22 : decode cX11_odds 22 = .ok (.ireturn, 1) := by decide +kernel
theorem dX11_odds_23 : decode cX11_odds 23 = .ok (.aload_n 0, 1) := by decide +kernel
theorem dX11_odds_24 : decode cX11_odds 24 = .ok (.getfield 48, 3) := by decide +kernel
theorem dX11_odds_27 : decode cX11_odds 27 = .ok (.iload_n 1, 1) := by decide +kernel
theorem dX11_odds_28 : decode cX11_odds 28 = .ok (.invokevirtual 185, 3) := by decide +kernel
theorem dX11_odds_31 : decode cX11_odds 31 = .ok (.ifCond .eq 7, 3) := by decide +kernel
theorem dX11_odds_34 : decode cX11_odds 34 = .ok (.iconst 0, 1) := by decide +kernel
theorem dX11_odds_35 : decode cX11_odds 35 = .ok (.goto 16, 3) := by decide +kernel
theorem dX11_odds_38 : decode cX11_odds 38 = .ok (.aload_n 0, 1) := by decide +kernel
theorem dX11_odds_39 : decode cX11_odds 39 = .ok (.getfield 83, 3) := by decide +kernel
theorem dX11_odds_42 : decode cX11_odds 42 = .ok (.aload_n 0, 1) := by decide +kernel
theorem dX11_odds_43 : decode cX11_odds 43 = .ok (.getfield 48, 3) := by decide +kernel
theorem dX11_odds_46 : decode cX11_odds 46 = .ok (.iload_n 1, 1) := by decide +kernel
theorem dX11_odds_47 : decode cX11_odds 47 = .ok (.iload_n 2, 1) := by decide +kernel
theorem dX11_odds_48 : decode cX11_odds 48 = .ok (.invokevirtual 336, 3) := by decide +kernel
theorem dX11_odds_51 : decode cX11_odds 51 = .ok (.ireturn, 1) := by decide +kernel
set_option maxHeartbeats 4000000 in
set_option maxRecDepth 100000 in
theorem cP_odds {μ ν : Mm} (h : Rel μ ν) {v u : Int} (hv : InR v) (hu : InR u) : CtE PC 11 yX11_odds cX11_odds 3 (some .int) [vR 0, vI v, vI u] μ (fun r m => r = (if (0 ≤ v ∧ v < ν.1 0 25) ∧ (0 ≤ u ∧ u ≤ 100) then odF ν v u (ν.1 0 25).toNat 0 (ν.1 17) 1000000000 else -1) ∧ QF μ m) := by
  refine ct_intro [some (vR 0), some (vI v), some (vI u)] RX11 (by decide) rfl XCo rfl (Nat.le_of_ble_eq_true rfl) (fun K hO => ?_)
  obtain ⟨c, hc, hlc1, hlc2, hl3, hl4, hl5⟩ := h.L
  obtain ⟨N, hN, hN1, hN2, hN3⟩ := h.P
  obtain ⟨a, x, ha, hx, ha1, ha2, ha3, ha4⟩ := h.A
  have hnp := h.B.np
  have hnt := h.B.nt
  have hr := h.B.now.rest
  have hN15 := h.N.2.1
  refine aw_aload_n hO dX11_odds_0 rfl rfl ?_
  refine gC_X11_41_0 hO dX11_odds_1 rfl ?_
  refine aw_iload_n hO dX11_odds_4 rfl rfl ?_
  refine aw_callVI (as := [vI v]) (st := []) hO dX11_odds_5 rfl (lw_t3 170 rfl rfl) kX9_hasPerson (T := TX9) rfl (by decide) rfl (cJ_hasPerson h.JR.z hv) (by decide) rfl rfl rfl (Nat.le_of_ble_eq_true rfl) ?_
  refine aw_ifz_eq (tgt := 21) hO dX11_odds_8 rfl rfl (fun c8 => ?_) (fun c8 => ?_)
  · refine aw_iconst hO dX11_odds_21 rfl ?_
    refine aw_iret hO dX11_odds_22 ?_
    exact ⟨_, rfl, by rw [if_neg (fun z => c8 z.1)], QF.rf⟩
  · obtain ⟨p, hpe⟩ := Int.eq_ofNat_of_zero_le c8.1
    subst hpe
    refine aw_iload_n hO dX11_odds_11 rfl rfl ?_
    refine aw_if_lt (tgt := 21) hO dX11_odds_12 rfl rfl hu (fun c12 => ?_) (fun c12 => ?_)
    · refine aw_iconst hO dX11_odds_21 rfl ?_
      refine aw_iret hO dX11_odds_22 ?_
      exact ⟨_, rfl, by rw [if_neg (fun z => by have := z.2; omega)], QF.rf⟩
    · refine aw_iload_n hO dX11_odds_15 rfl rfl ?_
      refine aw_bipush hO dX11_odds_16 rfl (by decide) (by decide) ?_
      refine aw_icmp_le (tgt := 23) hO dX11_odds_18 rfl rfl hu (inRlit _) (fun c18 => ?_) (fun c18 => ?_)
      · refine aw_aload_n hO dX11_odds_23 rfl rfl ?_
        refine gC_X11_48_0 hO dX11_odds_24 rfl ?_
        refine aw_iload_n hO dX11_odds_27 rfl rfl ?_
        refine aw_callVI (as := [vI ((p : Nat) : Int)]) (st := []) hO dX11_odds_28 rfl (lw_t3 208 rfl rfl) kX7_isAway (T := TX7) rfl (by decide) rfl (cJ_isAway h.JR.ob h.JR.S p) (by decide) rfl rfl rfl (Nat.le_of_ble_eq_true rfl) ?_
        refine aw_ifz_eq (tgt := 38) hO dX11_odds_31 rfl rfl (fun c31 => ?_) (fun c31 => ?_)
        · refine aw_aload_n hO dX11_odds_38 rfl rfl ?_
          refine gC_X11_83_0 hO dX11_odds_39 rfl ?_
          refine aw_aload_n hO dX11_odds_42 rfl rfl ?_
          refine gC_X11_48_0 hO dX11_odds_43 rfl ?_
          refine aw_iload_n hO dX11_odds_46 rfl rfl ?_
          refine aw_iload_n hO dX11_odds_47 rfl rfl ?_
          refine aw_callVE (as := [vR 27, vI ((p : Nat) : Int), vI u]) (st := []) hO dX11_odds_48 rfl (lw_t5 58 rfl rfl) kX6_oddsOf (T := TX6) rfl (by decide) rfl (cJ_oddsOf h.JR (p := p) (ch := u) (by omega) (by omega) (by omega)) (by decide) rfl rfl rfl (Nat.le_of_ble_eq_true rfl) (fun v1 μ2 hq3 => ?_)
          obtain ⟨e_v1, hF_μ2⟩ := hq3
          refine aw_iret hO dX11_odds_51 ?_
          exact ⟨_, rfl, by rw [if_pos ⟨c8, by omega, by omega⟩, e_v1], QF.of hF_μ2⟩
        · refine aw_iconst hO dX11_odds_34 rfl ?_
          refine aw_goto (tgt := 51) hO dX11_odds_35 rfl ?_
          refine aw_iret hO dX11_odds_51 ?_
          exact ⟨_, rfl, by rw [if_pos ⟨c8, by omega, by omega⟩]; exact (odF_away hnp.2 c31 _ 0 _ _ (by omega) rfl).symm, QF.rf⟩
      · refine aw_iconst hO dX11_odds_21 rfl ?_
        refine aw_iret hO dX11_odds_22 ?_
        exact ⟨_, rfl, by rw [if_neg (fun z => by have := z.2; omega)], QF.rf⟩
theorem dX11_fault_0 : decode cX11_fault 0 = .ok (.iload_n 1, 1) := by decide +kernel
theorem dX11_fault_1 : decode cX11_fault 1 = .ok (.ifCond .ne 11, 3) := by decide +kernel
theorem dX11_fault_4 : decode cX11_fault 4 = .ok (.aload_n 0, 1) := by decide +kernel
theorem dX11_fault_5 : decode cX11_fault 5 = .ok (.getfield 21, 3) := by decide +kernel
theorem dX11_fault_8 : decode cX11_fault 8 = .ok (.invokevirtual 124, 3) := by decide +kernel
theorem dX11_fault_11 : decode cX11_fault 11 = .ok (.ireturn, 1) := by decide +kernel
theorem dX11_fault_12 : decode cX11_fault 12 = .ok (.iload_n 1, 1) := by decide +kernel
theorem dX11_fault_13 : decode cX11_fault 13 = .ok (.iconst 1, 1) := by decide +kernel
theorem dX11_fault_14 : decode cX11_fault 14 = .ok (.if_icmp .ne 13, 3) := by decide +kernel
theorem dX11_fault_17 : decode cX11_fault 17 = .ok (.aload_n 0, 1) := by decide +kernel
theorem dX11_fault_18 : decode cX11_fault 18 = .ok (.getfield 28, 3) := by decide +kernel
theorem dX11_fault_21 : decode cX11_fault 21 = .ok (.invokevirtual 128, 3) := by decide +kernel
theorem dX11_fault_24 : decode cX11_fault 24 = .ok (.goto 5, 3) := by decide +kernel
theorem dX11_fault_27 : decode cX11_fault 27 = .ok (.bipush (-2), 2) := by decide +kernel
theorem dX11_fault_29 : decode cX11_fault 29 = .ok (.ireturn, 1) := by decide +kernel
set_option maxRecDepth 100000 in
theorem gC_X11_28_0 {Q : Option AV → Mm → Prop} {K : KT} {cc : ByteArray} {nL d : Nat} {ret : Option FieldType} {pc n : Nat} {ls : List (Option AV)} {st : List AV} {μ : Mm} (hO : KOk PC Q K cc RX11 nL d ret) (hd : decode cc pc = .ok (.getfield 28, 3)) (hn : pc + 3 = n) (kk : AW K n ls (vR 8 :: st) μ) : AW K pc ls (vR 0 :: st) μ := aw_get (f := 2) hO hd hn okX11 (by decide) (lw_t2 47 rfl rfl) (by decide) rfl rfl rfl kk
set_option maxRecDepth 100000 in
theorem gC_X11_21_0 {Q : Option AV → Mm → Prop} {K : KT} {cc : ByteArray} {nL d : Nat} {ret : Option FieldType} {pc n : Nat} {ls : List (Option AV)} {st : List AV} {μ : Mm} (hO : KOk PC Q K cc RX11 nL d ret) (hd : decode cc pc = .ok (.getfield 21, 3)) (hn : pc + 3 = n) (kk : AW K n ls (vR 4 :: st) μ) : AW K pc ls (vR 0 :: st) μ := aw_get (f := 1) hO hd hn okX11 (by decide) (lw_t2 46 rfl rfl) (by decide) rfl rfl rfl kk
set_option maxHeartbeats 4000000 in
set_option maxRecDepth 100000 in
theorem cP_fault {μ ν : Mm} (h : Rel μ ν) {v : Int} (hv : InR v) : CtE PC 22 yX11_fault cX11_fault 2 (some .int) [vR 0, vI v] μ (fun r m => r = (if v = 0 then faultV (pTown (gM ν)) else if v = 1 then faultV (pLaw (gM ν)) else -2) ∧ QF μ m) := by
  refine ct_intro [some (vR 0), some (vI v)] RX11 (by decide) rfl XCo rfl (Nat.le_of_ble_eq_true rfl) (fun K hO => ?_)
  obtain ⟨c, hc, hlc1, hlc2, hl3, hl4, hl5⟩ := h.L
  obtain ⟨N, hN, hN1, hN2, hN3⟩ := h.P
  obtain ⟨a, x, ha, hx, ha1, ha2, ha3, ha4⟩ := h.A
  have hnp := h.B.np
  have hnt := h.B.nt
  have hr := h.B.now.rest
  have hN15 := h.N.2.1
  obtain ⟨N0, τ, hTC, hPT⟩ := h.tc
  refine aw_iload_n hO dX11_fault_0 rfl rfl ?_
  refine aw_if_ne (tgt := 12) hO dX11_fault_1 rfl rfl hv (fun c1 => ?_) (fun c1 => ?_)
  · refine aw_iload_n hO dX11_fault_12 rfl rfl ?_
    refine aw_iconst hO dX11_fault_13 rfl ?_
    refine aw_icmp_ne (tgt := 27) hO dX11_fault_14 rfl rfl hv (inRlit _) (fun c14 => ?_) (fun c14 => ?_)
    · refine aw_bipush hO dX11_fault_27 rfl (by decide) (by decide) ?_
      refine aw_iret hO dX11_fault_29 ?_
      exact ⟨_, rfl, by rw [if_neg c1, if_neg c14], QF.rf⟩
    · refine aw_aload_n hO dX11_fault_17 rfl rfl ?_
      refine gC_X11_28_0 hO dX11_fault_18 rfl ?_
      refine aw_callVE (as := []) (st := []) hO dX11_fault_21 rfl (lw_t3 7 rfl rfl) kX5_read (T := TX5) rfl (by decide) rfl (cT_readLaw hTC) (by decide) rfl rfl rfl (Nat.le_of_ble_eq_true rfl) (fun v1 μ2 hq3 => ?_)
      obtain ⟨hF_μ2, e_v1, -⟩ := hq3
      refine aw_goto (tgt := 29) hO dX11_fault_24 rfl ?_
      refine aw_iret hO dX11_fault_29 ?_
      exact ⟨_, rfl, by rw [if_neg c1, if_pos c14, e_v1], QF.l hF_μ2⟩
  · refine aw_aload_n hO dX11_fault_4 rfl rfl ?_
    refine gC_X11_21_0 hO dX11_fault_5 rfl ?_
    refine aw_callVE (as := []) (st := []) hO dX11_fault_8 rfl (lw_t2 116 rfl rfl) kX10_read (T := TX10) rfl (by decide) rfl (cT_readTown hTC) (by decide) rfl rfl rfl (Nat.le_of_ble_eq_true rfl) (fun v4 μ5 hq6 => ?_)
    obtain ⟨hF_μ5, e_v4, -⟩ := hq6
    refine aw_iret hO dX11_fault_11 ?_
    exact ⟨_, rfl, by rw [if_pos c1, e_v4], QF.r hF_μ5⟩
