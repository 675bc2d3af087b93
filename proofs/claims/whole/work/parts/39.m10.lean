theorem dX12_rule_0 : decode cX12_rule 0 = .ok (.aload_n 0, 1) := by decide +kernel
theorem dX12_rule_1 : decode cX12_rule 1 = .ok (.getfield 242, 3) := by decide +kernel
theorem dX12_rule_4 : decode cX12_rule 4 = .ok (.ifCond .eq 12, 3) := by decide +kernel
theorem dX12_rule_7 : decode cX12_rule 7 = .ok (.iload_n 1, 1) := by decide +kernel
theorem dX12_rule_8 : decode cX12_rule 8 = .ok (.iconst 0, 1) := by decide +kernel
theorem dX12_rule_9 : decode cX12_rule 9 = .ok (.iconst 3, 1) := by decide +kernel
theorem dX12_rule_10 : decode cX12_rule 10 = .ok (.invokestatic 205, 3) := by decide +kernel
theorem dX12_rule_13 : decode cX12_rule 13 = .ok (.ifCond .ne 7, 3) := by decide +kernel
theorem dX12_rule_16 : decode cX12_rule 16 = .ok (.iconst (-1), 1) := by decide +kernel
theorem dX12_rule_17 : decode cX12_rule 17 = .ok (.goto 24, 3) := by decide +kernel
theorem dX12_rule_20 : decode cX12_rule 20 = .ok (.iload_n 1, 1) := by decide +kernel
theorem dX12_rule_21 : decode cX12_rule 21 = .ok (.iconst 3, 1) := by decide +kernel
theorem dX12_rule_22 : decode cX12_rule 22 = .ok (.if_icmp .ne 13, 3) := by decide +kernel
theorem dX12_rule_25 : decode cX12_rule 25 = .ok (.aload_n 0, 1) := by decide +kernel
theorem dX12_rule_26 : decode cX12_rule 26 = .ok (.getfield 58, 3) := by decide +kernel
theorem dX12_rule_29 : decode cX12_rule 29 = .ok (.bipush 33, 2) := by decide +kernel
theorem dX12_rule_31 : decode cX12_rule 31 = .ok (.iaload, 1) := by decide +kernel
theorem dX12_rule_32 : decode cX12_rule 32 = .ok (.goto 9, 3) := by decide +kernel
theorem dX12_rule_35 : decode cX12_rule 35 = .ok (.aload_n 0, 1) := by decide +kernel
theorem dX12_rule_36 : decode cX12_rule 36 = .ok (.getfield 49, 3) := by decide +kernel
theorem dX12_rule_39 : decode cX12_rule 39 = .ok (.iload_n 1, 1) := by decide +kernel
theorem dX12_rule_40 : decode cX12_rule 40 = .ok (.iaload, 1) := by decide +kernel
theorem dX12_rule_41 : decode cX12_rule 41 = .ok (.ireturn, 1) := by decide +kernel
set_option maxHeartbeats 4000000 in
set_option maxRecDepth 100000 in
theorem ctM_rule (μ : Mm) (h : MB μ) {v : Int} (hv : InR v) : CtI PM 1 yX12_rule cX12_rule 2 (some .int) [vR 0, vI v] μ (if (μ.1 0 25) = 0 then (-1) else (if 0 ≤ v ∧ v ≤ 3 then (if v ≠ 3 then (μ.1 14 ((v).toNat)) else (μ.1 17 33)) else (-1))) := by
  refine ct_intro [some (vR 0), some (vI v)] RX12 (by decide) rfl XM rfl (Nat.le_of_ble_eq_true rfl) (fun K hO => ?_)
  have hnp := h.np
  refine aw_aload_n hO dX12_rule_0 rfl rfl ?_
  refine gM_persons hO dX12_rule_1 rfl ?_
  refine aw_if_eq (tgt := 16) hO dX12_rule_4 rfl rfl ⟨by omega, by omega⟩ (fun c4 => ?_) (fun c4 => ?_)
  · refine aw_iconst hO dX12_rule_16 rfl ?_
    refine aw_goto (tgt := 41) hO dX12_rule_17 rfl ?_
    refine aw_iret hO dX12_rule_41 ?_
    exact rI (by rw [if_pos c4])
  · refine aw_iload_n hO dX12_rule_7 rfl rfl ?_
    refine aw_iconst hO dX12_rule_8 rfl ?_
    refine aw_iconst hO dX12_rule_9 rfl ?_
    refine aw_callSI (as := [vI v, vI 0, vI 3]) (st := []) hO dX12_rule_10 rfl (lw_t6 172 rfl rfl) kX12_in (ctM_in μ ⟨by omega, by omega⟩ (inRlit _) (inRlit _)) (by decide) rfl rfl rfl (Nat.le_of_ble_eq_true rfl) ?_
    refine aw_ifz_ne (tgt := 20) hO dX12_rule_13 rfl rfl (fun c13 => ?_) (fun c13 => ?_)
    · refine aw_iload_n hO dX12_rule_20 rfl rfl ?_
      refine aw_iconst hO dX12_rule_21 rfl ?_
      refine aw_icmp_ne (tgt := 35) hO dX12_rule_22 rfl rfl ⟨by omega, by omega⟩ (inRlit _) (fun c22 => ?_) (fun c22 => ?_)
      · refine aw_aload_n hO dX12_rule_35 rfl rfl ?_
        refine gM_rule hO dX12_rule_36 rfl ?_
        refine aw_iload_n hO dX12_rule_39 rfl rfl ?_
        refine aw_ialdn (N := 4) (i := (v).toNat) hO dX12_rule_40 rfl (by decide) rfl (by decide) (Int.toNat_of_nonneg (by omega)).symm (by omega) ?_
        refine aw_iret hO dX12_rule_41 ?_
        exact rI (by rw [if_neg (c4), if_pos c13, if_pos c22])
      · refine aw_aload_n hO dX12_rule_25 rfl rfl ?_
        refine gM_now hO dX12_rule_26 rfl ?_
        refine aw_bipush hO dX12_rule_29 rfl (by decide) (by decide) ?_
        refine aw_ialdn (N := 218) (i := 33) hO dX12_rule_31 rfl (by decide) rfl (by decide) rfl (by decide) ?_
        refine aw_goto (tgt := 41) hO dX12_rule_32 rfl ?_
        refine aw_iret hO dX12_rule_41 ?_
        exact rI (by rw [if_neg (c4), if_pos c13, if_neg (fun h => h c22)])
    · refine aw_iconst hO dX12_rule_16 rfl ?_
      refine aw_goto (tgt := 41) hO dX12_rule_17 rfl ?_
      refine aw_iret hO dX12_rule_41 ?_
      exact rI (by rw [if_neg (c4), if_neg (c13)])
theorem dX12_trouble_0 : decode cX12_trouble 0 = .ok (.iload_n 1, 1) := by decide +kernel
theorem dX12_trouble_1 : decode cX12_trouble 1 = .ok (.iconst 0, 1) := by decide +kernel
theorem dX12_trouble_2 : decode cX12_trouble 2 = .ok (.aload_n 0, 1) := by decide +kernel
theorem dX12_trouble_3 : decode cX12_trouble 3 = .ok (.getfield 245, 3) := by decide +kernel
theorem dX12_trouble_6 : decode cX12_trouble 6 = .ok (.iconst 1, 1) := by decide +kernel
theorem dX12_trouble_7 : decode cX12_trouble 7 = .ok (.isub, 1) := by decide +kernel
theorem dX12_trouble_8 : decode cX12_trouble 8 = .ok (.invokestatic 205, 3) := by decide +kernel
theorem dX12_trouble_11 : decode cX12_trouble 11 = .ok (.ifCond .eq 12, 3) := by decide +kernel
theorem dX12_trouble_14 : decode cX12_trouble 14 = .ok (.iload_n 2, 1) := by decide +kernel
theorem dX12_trouble_15 : decode cX12_trouble 15 = .ok (.iconst 0, 1) := by decide +kernel
theorem dX12_trouble_16 : decode cX12_trouble 16 = .ok (.iconst 2, 1) := by decide +kernel
theorem dX12_trouble_17 : decode cX12_trouble 17 = .ok (.invokestatic 205, 3) := by decide +kernel
theorem dX12_trouble_20 : decode cX12_trouble 20 = .ok (.ifCond .ne 7, 3) := by decide +kernel
theorem dX12_trouble_23 : decode cX12_trouble 23 = .ok (.iconst (-1), 1) := by decide +kernel
theorem dX12_trouble_24 : decode cX12_trouble 24 = .ok (.goto 30, 3) := by decide +kernel
theorem dX12_trouble_27 : decode cX12_trouble 27 = .ok (.iload_n 2, 1) := by decide +kernel
theorem dX12_trouble_28 : decode cX12_trouble 28 = .ok (.iconst 1, 1) := by decide +kernel
theorem dX12_trouble_29 : decode cX12_trouble 29 = .ok (.if_icmp .ne 15, 3) := by decide +kernel
theorem dX12_trouble_32 : decode cX12_trouble 32 = .ok (.aload_n 0, 1) := by decide +kernel
theorem dX12_trouble_33 : decode cX12_trouble 33 = .ok (.getfield 58, 3) := by decide +kernel
theorem dX12_trouble_36 : decode cX12_trouble 36 = .ok (.bipush 24, 2) := by decide +kernel
theorem dX12_trouble_38 : decode cX12_trouble 38 = .ok (.iload_n 1, 1) := by decide +kernel
theorem dX12_trouble_39 : decode cX12_trouble 39 = .ok (.iadd, 1) := by decide +kernel
theorem dX12_trouble_40 : decode cX12_trouble 40 = .ok (.iaload, 1) := by decide +kernel
theorem dX12_trouble_41 : decode cX12_trouble 41 = .ok (.goto 13, 3) := by decide +kernel
theorem dX12_trouble_44 : decode cX12_trouble 44 = .ok (.aload_n 0, 1) := by decide +kernel
theorem dX12_trouble_45 : decode cX12_trouble 45 = .ok (.getfield 55, 3) := by decide +kernel
theorem dX12_trouble_48 : decode cX12_trouble 48 = .ok (.iconst 3, 1) := by decide +kernel
theorem dX12_trouble_49 : decode cX12_trouble 49 = .ok (.iload_n 1, 1) := by decide +kernel
theorem dX12_trouble_50 : decode cX12_trouble 50 = .ok (.imul, 1) := by decide +kernel
theorem dX12_trouble_51 : decode cX12_trouble 51 = .ok (.iload_n 2, 1) := by decide +kernel
theorem dX12_trouble_52 : decode cX12_trouble 52 = .ok (.iadd, 1) := by decide +kernel
theorem dX12_trouble_53 : decode cX12_trouble 53 = .ok (.iaload, 1) := by decide +kernel
theorem dX12_trouble_54 : decode cX12_trouble 54 = .ok (.ireturn, 1) := by decide +kernel
set_option maxHeartbeats 4000000 in
set_option maxRecDepth 100000 in
theorem ctM_trouble (μ : Mm) (h : MB μ) {u v : Int} (hu : InR u) (hv : InR v) : CtI PM 1 yX12_trouble cX12_trouble 3 (some .int) [vR 0, vI u, vI v] μ (if 0 ≤ u ∧ u ≤ ((μ.1 0 26) - 1) then (if 0 ≤ v ∧ v ≤ 2 then (if v ≠ 1 then (μ.1 16 ((((3 * u) + v)).toNat)) else (μ.1 17 (((24 + u)).toNat))) else (-1)) else (-1)) := by
  refine ct_intro [some (vR 0), some (vI u), some (vI v)] RX12 (by decide) rfl XM rfl (Nat.le_of_ble_eq_true rfl) (fun K hO => ?_)
  have hnt := h.nt
  refine aw_iload_n hO dX12_trouble_0 rfl rfl ?_
  refine aw_iconst hO dX12_trouble_1 rfl ?_
  refine aw_aload_n hO dX12_trouble_2 rfl rfl ?_
  refine gM_troubles hO dX12_trouble_3 rfl ?_
  refine aw_iconst hO dX12_trouble_6 rfl ?_
  refine aw_isub hO dX12_trouble_7 rfl ?_
  refine aw_callSI (as := [vI u, vI 0, vI ((μ.1 0 26) - 1)]) (st := []) hO dX12_trouble_8 rfl (lw_t6 172 rfl rfl) kX12_in (ctM_in μ ⟨by omega, by omega⟩ (inRlit _) ⟨by omega, by omega⟩) (by decide) rfl rfl rfl (Nat.le_of_ble_eq_true rfl) ?_
  refine aw_ifz_eq (tgt := 23) hO dX12_trouble_11 rfl rfl (fun c11 => ?_) (fun c11 => ?_)
  · refine aw_iconst hO dX12_trouble_23 rfl ?_
    refine aw_goto (tgt := 54) hO dX12_trouble_24 rfl ?_
    refine aw_iret hO dX12_trouble_54 ?_
    exact rI (by rw [if_neg (c11)])
  · refine aw_iload_n hO dX12_trouble_14 rfl rfl ?_
    refine aw_iconst hO dX12_trouble_15 rfl ?_
    refine aw_iconst hO dX12_trouble_16 rfl ?_
    refine aw_callSI (as := [vI v, vI 0, vI 2]) (st := []) hO dX12_trouble_17 rfl (lw_t6 172 rfl rfl) kX12_in (ctM_in μ ⟨by omega, by omega⟩ (inRlit _) (inRlit _)) (by decide) rfl rfl rfl (Nat.le_of_ble_eq_true rfl) ?_
    refine aw_ifz_ne (tgt := 27) hO dX12_trouble_20 rfl rfl (fun c20 => ?_) (fun c20 => ?_)
    · refine aw_iload_n hO dX12_trouble_27 rfl rfl ?_
      refine aw_iconst hO dX12_trouble_28 rfl ?_
      refine aw_icmp_ne (tgt := 44) hO dX12_trouble_29 rfl rfl ⟨by omega, by omega⟩ (inRlit _) (fun c29 => ?_) (fun c29 => ?_)
      · refine aw_aload_n hO dX12_trouble_44 rfl rfl ?_
        refine gM_trouble hO dX12_trouble_45 rfl ?_
        refine aw_iconst hO dX12_trouble_48 rfl ?_
        refine aw_iload_n hO dX12_trouble_49 rfl rfl ?_
        refine aw_imul hO dX12_trouble_50 rfl ?_
        refine aw_iload_n hO dX12_trouble_51 rfl rfl ?_
        refine aw_iadd hO dX12_trouble_52 rfl ?_
        refine aw_ialdn (N := 15) (i := (((3 * u) + v)).toNat) hO dX12_trouble_53 rfl (by decide) rfl (by decide) (Int.toNat_of_nonneg (by omega)).symm (by omega) ?_
        refine aw_iret hO dX12_trouble_54 ?_
        exact rI (by rw [if_pos c11, if_pos c20, if_pos c29])
      · refine aw_aload_n hO dX12_trouble_32 rfl rfl ?_
        refine gM_now hO dX12_trouble_33 rfl ?_
        refine aw_bipush hO dX12_trouble_36 rfl (by decide) (by decide) ?_
        refine aw_iload_n hO dX12_trouble_38 rfl rfl ?_
        refine aw_iadd hO dX12_trouble_39 rfl ?_
        refine aw_ialdn (N := 218) (i := ((24 + u)).toNat) hO dX12_trouble_40 rfl (by decide) rfl (by decide) (Int.toNat_of_nonneg (by omega)).symm (by omega) ?_
        refine aw_goto (tgt := 54) hO dX12_trouble_41 rfl ?_
        refine aw_iret hO dX12_trouble_54 ?_
        exact rI (by rw [if_pos c11, if_pos c20, if_neg (fun h => h c29)])
    · refine aw_iconst hO dX12_trouble_23 rfl ?_
      refine aw_goto (tgt := 54) hO dX12_trouble_24 rfl ?_
      refine aw_iret hO dX12_trouble_54 ?_
      exact rI (by rw [if_pos c11, if_neg (c20)])
theorem dX12_law_0 : decode cX12_law 0 = .ok (.iload_n 1, 1) := by decide +kernel
theorem dX12_law_1 : decode cX12_law 1 = .ok (.iconst (-1), 1) := by decide +kernel
theorem dX12_law_2 : decode cX12_law 2 = .ok (.aload_n 0, 1) := by decide +kernel
theorem dX12_law_3 : decode cX12_law 3 = .ok (.getfield 261, 3) := by decide +kernel
theorem dX12_law_6 : decode cX12_law 6 = .ok (.iconst 1, 1) := by decide +kernel
theorem dX12_law_7 : decode cX12_law 7 = .ok (.isub, 1) := by decide +kernel
theorem dX12_law_8 : decode cX12_law 8 = .ok (.invokestatic 205, 3) := by decide +kernel
theorem dX12_law_11 : decode cX12_law 11 = .ok (.ifCond .ne 5, 3) := by decide +kernel
theorem dX12_law_14 : decode cX12_law 14 = .ok (.iconst 0, 1) := by decide +kernel
theorem dX12_law_15 : decode cX12_law 15 = .ok (.ireturn, 1) := by decide +kernel
theorem dX12_law_16 : decode cX12_law 16 = .ok (.aload_n 0, 1) := by decide +kernel
theorem dX12_law_17 : decode cX12_law 17 = .ok (.iload_n 1, 1) := by decide +kernel
theorem dX12_law_18 : decode cX12_law 18 = .ok (.putfield 64, 3) := by decide +kernel
theorem dX12_law_21 : decode cX12_law 21 = .ok (.iconst 1, 1) := by decide +kernel
theorem dX12_law_22 : decode cX12_law 22 = .ok (.ireturn, 1) := by decide +kernel
set_option maxHeartbeats 4000000 in
set_option maxRecDepth 100000 in
theorem ctM_law (μ : Mm) (hl : 0 ≤ μ.1 0 13) (hl2 : μ.1 0 13 ≤ 4) {v : Int} (hv : InR v) : CtE PM 1 yX12_law cX12_law 2 (some .boolean) [vR 0, vI v] μ (fun r m => r = (if (-1) ≤ v ∧ v ≤ ((μ.1 0 13) - 1) then 1 else 0) ∧ m = (if (-1) ≤ v ∧ v ≤ ((μ.1 0 13) - 1) then (mst μ 0 29 v) else μ)) := by
  refine ct_intro [some (vR 0), some (vI v)] RX12 (by decide) rfl XM rfl (Nat.le_of_ble_eq_true rfl) (fun K hO => ?_)
  refine aw_iload_n hO dX12_law_0 rfl rfl ?_
  refine aw_iconst hO dX12_law_1 rfl ?_
  refine aw_aload_n hO dX12_law_2 rfl rfl ?_
  refine gM_laws hO dX12_law_3 rfl ?_
  refine aw_iconst hO dX12_law_6 rfl ?_
  refine aw_isub hO dX12_law_7 rfl ?_
  refine aw_callSI (as := [vI v, vI (-1), vI ((μ.1 0 13) - 1)]) (st := []) hO dX12_law_8 rfl (lw_t6 172 rfl rfl) kX12_in (ctM_in μ ⟨by omega, by omega⟩ (inRlit _) ⟨by omega, by omega⟩) (by decide) rfl rfl rfl (Nat.le_of_ble_eq_true rfl) ?_
  refine aw_ifz_ne (tgt := 16) hO dX12_law_11 rfl rfl (fun c11 => ?_) (fun c11 => ?_)
  · refine aw_aload_n hO dX12_law_16 rfl rfl ?_
    refine aw_iload_n hO dX12_law_17 rfl rfl ?_
    refine pM_holding hO dX12_law_18 rfl ?_
    refine aw_mm (fun μ1 e_μ1 => ?_)
    refine aw_iconst hO dX12_law_21 rfl ?_
    refine aw_zret hO dX12_law_22 (Or.inr rfl) ?_
    exact ⟨_, rfl, by rw [if_pos c11], by rw [e_μ1, if_pos c11]⟩
  · refine aw_iconst hO dX12_law_14 rfl ?_
    refine aw_zret hO dX12_law_15 (Or.inl rfl) ?_
    exact ⟨_, rfl, by rw [if_neg (c11)], by rw [if_neg (c11)]⟩
theorem dX12_fate_0 : decode cX12_fate 0 = .ok (.iload_n 1, 1) := by decide +kernel
theorem dX12_fate_1 : decode cX12_fate 1 = .ok (.iconst 0, 1) := by decide +kernel
theorem dX12_fate_2 : decode cX12_fate 2 = .ok (.bipush 9, 2) := by decide +kernel
theorem dX12_fate_4 : decode cX12_fate 4 = .ok (.invokestatic 205, 3) := by decide +kernel
theorem dX12_fate_7 : decode cX12_fate 7 = .ok (.ifCond .eq 11, 3) := by decide +kernel
theorem dX12_fate_10 : decode cX12_fate 10 = .ok (.iload_n 1, 1) := by decide +kernel
theorem dX12_fate_11 : decode cX12_fate 11 = .ok (.aload_n 0, 1) := by decide +kernel
theorem dX12_fate_12 : decode cX12_fate 12 = .ok (.getfield 68, 3) := by decide +kernel
theorem dX12_fate_15 : decode cX12_fate 15 = .ok (.if_icmp .ne 5, 3) := by decide +kernel
theorem dX12_fate_18 : decode cX12_fate 18 = .ok (.iconst 0, 1) := by decide +kernel
theorem dX12_fate_19 : decode cX12_fate 19 = .ok (.ireturn, 1) := by decide +kernel
theorem dX12_fate_20 : decode cX12_fate 20 = .ok (.aload_n 0, 1) := by decide +kernel
theorem dX12_fate_21 : decode cX12_fate 21 = .ok (.iload_n 1, 1) := by decide +kernel
theorem dX12_fate_22 : decode cX12_fate 22 = .ok (.putfield 68, 3) := by decide +kernel
theorem dX12_fate_25 : decode cX12_fate 25 = .ok (.iconst 1, 1) := by decide +kernel
theorem dX12_fate_26 : decode cX12_fate 26 = .ok (.ireturn, 1) := by decide +kernel
set_option maxHeartbeats 4000000 in
set_option maxRecDepth 100000 in
theorem ctM_fate (μ : Mm) (hf : 0 ≤ μ.1 0 30) (hf2 : μ.1 0 30 ≤ 9) {v : Int} (hv : InR v) : CtE PM 1 yX12_fate cX12_fate 2 (some .boolean) [vR 0, vI v] μ (fun r m => r = (if 0 ≤ v ∧ v ≤ 9 then (if v ≠ (μ.1 0 30) then 1 else 0) else 0) ∧ m = (if 0 ≤ v ∧ v ≤ 9 then (if v ≠ (μ.1 0 30) then (mst μ 0 30 v) else μ) else μ)) := by
  refine ct_intro [some (vR 0), some (vI v)] RX12 (by decide) rfl XM rfl (Nat.le_of_ble_eq_true rfl) (fun K hO => ?_)
  refine aw_iload_n hO dX12_fate_0 rfl rfl ?_
  refine aw_iconst hO dX12_fate_1 rfl ?_
  refine aw_bipush hO dX12_fate_2 rfl (by decide) (by decide) ?_
  refine aw_callSI (as := [vI v, vI 0, vI 9]) (st := []) hO dX12_fate_4 rfl (lw_t6 172 rfl rfl) kX12_in (ctM_in μ ⟨by omega, by omega⟩ (inRlit _) (inRlit _)) (by decide) rfl rfl rfl (Nat.le_of_ble_eq_true rfl) ?_
  refine aw_ifz_eq (tgt := 18) hO dX12_fate_7 rfl rfl (fun c7 => ?_) (fun c7 => ?_)
  · refine aw_iconst hO dX12_fate_18 rfl ?_
    refine aw_zret hO dX12_fate_19 (Or.inl rfl) ?_
    exact ⟨_, rfl, by rw [if_neg (c7)], by rw [if_neg (c7)]⟩
  · refine aw_iload_n hO dX12_fate_10 rfl rfl ?_
    refine aw_aload_n hO dX12_fate_11 rfl rfl ?_
    refine gM_fated hO dX12_fate_12 rfl ?_
    refine aw_icmp_ne (tgt := 20) hO dX12_fate_15 rfl rfl ⟨by omega, by omega⟩ ⟨by omega, by omega⟩ (fun c15 => ?_) (fun c15 => ?_)
    · refine aw_aload_n hO dX12_fate_20 rfl rfl ?_
      refine aw_iload_n hO dX12_fate_21 rfl rfl ?_
      refine pM_fated hO dX12_fate_22 rfl ?_
      refine aw_mm (fun μ1 e_μ1 => ?_)
      refine aw_iconst hO dX12_fate_25 rfl ?_
      refine aw_zret hO dX12_fate_26 (Or.inr rfl) ?_
      exact ⟨_, rfl, by rw [if_pos c7, if_pos c15], by rw [e_μ1, if_pos c7, if_pos c15]⟩
    · refine aw_iconst hO dX12_fate_18 rfl ?_
      refine aw_zret hO dX12_fate_19 (Or.inl rfl) ?_
      exact ⟨_, rfl, by rw [if_pos c7, if_neg (fun h => h c15)], by rw [if_pos c7, if_neg (fun h => h c15)]⟩
theorem dX12_status_0 : decode cX12_status 0 = .ok (.iload_n 1, 1) := by decide +kernel
theorem dX12_status_1 : decode cX12_status 1 = .ok (.iconst 0, 1) := by decide +kernel
theorem dX12_status_2 : decode cX12_status 2 = .ok (.iconst 4, 1) := by decide +kernel
theorem dX12_status_3 : decode cX12_status 3 = .ok (.invokestatic 205, 3) := by decide +kernel
theorem dX12_status_6 : decode cX12_status 6 = .ok (.ifCond .eq 12, 3) := by decide +kernel
theorem dX12_status_9 : decode cX12_status 9 = .ok (.aload_n 0, 1) := by decide +kernel
theorem dX12_status_10 : decode cX12_status 10 = .ok (.getfield 61, 3) := by decide +kernel
theorem dX12_status_13 : decode cX12_status 13 = .ok (.iload_n 1, 1) := by decide +kernel
theorem dX12_status_14 : decode cX12_status 14 = .ok (.iaload, 1) := by decide +kernel
theorem dX12_status_15 : decode cX12_status 15 = .ok (.goto 4, 3) := by decide +kernel
theorem dX12_status_18 : decode cX12_status 18 = .ok (.iconst (-1), 1) := by decide +kernel
theorem dX12_status_19 : decode cX12_status 19 = .ok (.ireturn, 1) := by decide +kernel
set_option maxHeartbeats 4000000 in
set_option maxRecDepth 100000 in
theorem ctM_status (μ : Mm) {v : Int} (hv : InR v) : CtI PM 1 yX12_status cX12_status 2 (some .int) [vR 0, vI v] μ (if 0 ≤ v ∧ v ≤ 4 then (μ.1 18 ((v).toNat)) else (-1)) := by
  refine ct_intro [some (vR 0), some (vI v)] RX12 (by decide) rfl XM rfl (Nat.le_of_ble_eq_true rfl) (fun K hO => ?_)
  refine aw_iload_n hO dX12_status_0 rfl rfl ?_
  refine aw_iconst hO dX12_status_1 rfl ?_
  refine aw_iconst hO dX12_status_2 rfl ?_
  refine aw_callSI (as := [vI v, vI 0, vI 4]) (st := []) hO dX12_status_3 rfl (lw_t6 172 rfl rfl) kX12_in (ctM_in μ ⟨by omega, by omega⟩ (inRlit _) (inRlit _)) (by decide) rfl rfl rfl (Nat.le_of_ble_eq_true rfl) ?_
  refine aw_ifz_eq (tgt := 18) hO dX12_status_6 rfl rfl (fun c6 => ?_) (fun c6 => ?_)
  · refine aw_iconst hO dX12_status_18 rfl ?_
    refine aw_iret hO dX12_status_19 ?_
    exact rI (by rw [if_neg (c6)])
  · refine aw_aload_n hO dX12_status_9 rfl rfl ?_
    refine gM_refused hO dX12_status_10 rfl ?_
    refine aw_iload_n hO dX12_status_13 rfl rfl ?_
    refine aw_ialdn (N := 5) (i := (v).toNat) hO dX12_status_14 rfl (by decide) rfl (by decide) (Int.toNat_of_nonneg (by omega)).symm (by omega) ?_
    refine aw_goto (tgt := 19) hO dX12_status_15 rfl ?_
    refine aw_iret hO dX12_status_19 ?_
    exact rI (by rw [if_pos c6])
theorem dX12_log_0 : decode cX12_log 0 = .ok (.iload_n 1, 1) := by decide +kernel
theorem dX12_log_1 : decode cX12_log 1 = .ok (.iconst 0, 1) := by decide +kernel
theorem dX12_log_2 : decode cX12_log 2 = .ok (.aload_n 0, 1) := by decide +kernel
theorem dX12_log_3 : decode cX12_log 3 = .ok (.getfield 58, 3) := by decide +kernel
theorem dX12_log_6 : decode cX12_log 6 = .ok (.bipush 37, 2) := by decide +kernel
theorem dX12_log_8 : decode cX12_log 8 = .ok (.iaload, 1) := by decide +kernel
theorem dX12_log_9 : decode cX12_log 9 = .ok (.iconst 1, 1) := by decide +kernel
theorem dX12_log_10 : decode cX12_log 10 = .ok (.isub, 1) := by decide +kernel
theorem dX12_log_11 : decode cX12_log 11 = .ok (.invokestatic 205, 3) := by decide +kernel
theorem dX12_log_14 : decode cX12_log 14 = .ok (.ifCond .eq 38, 3) := by decide +kernel
theorem dX12_log_17 : decode cX12_log 17 = .ok (.iload_n 2, 1) := by decide +kernel
theorem dX12_log_18 : decode cX12_log 18 = .ok (.iconst 0, 1) := by decide +kernel
theorem dX12_log_19 : decode cX12_log 19 = .ok (.iconst 2, 1) := by decide +kernel
theorem dX12_log_20 : decode cX12_log 20 = .ok (.invokestatic 205, 3) := by decide +kernel
theorem dX12_log_23 : decode cX12_log 23 = .ok (.ifCond .eq 29, 3) := by decide +kernel
theorem dX12_log_26 : decode cX12_log 26 = .ok (.aload_n 0, 1) := by decide +kernel
theorem dX12_log_27 : decode cX12_log 27 = .ok (.getfield 58, 3) := by decide +kernel
theorem dX12_log_30 : decode cX12_log 30 = .ok (.bipush 38, 2) := by decide +kernel
theorem dX12_log_32 : decode cX12_log 32 = .ok (.iconst 3, 1) := by decide +kernel
theorem dX12_log_33 : decode cX12_log 33 = .ok (.aload_n 0, 1) := by decide +kernel
theorem dX12_log_34 : decode cX12_log 34 = .ok (.getfield 58, 3) := by decide +kernel
theorem dX12_log_37 : decode cX12_log 37 = .ok (.bipush 37, 2) := by decide +kernel
theorem dX12_log_39 : decode cX12_log 39 = .ok (.iaload, 1) := by decide +kernel
theorem dX12_log_40 : decode cX12_log 40 = .ok (.iconst 1, 1) := by decide +kernel
theorem dX12_log_41 : decode cX12_log 41 = .ok (.isub, 1) := by decide +kernel
theorem dX12_log_42 : decode cX12_log 42 = .ok (.iload_n 1, 1) := by decide +kernel
theorem dX12_log_43 : decode cX12_log 43 = .ok (.isub, 1) := by decide +kernel
theorem dX12_log_44 : decode cX12_log 44 = .ok (.imul, 1) := by decide +kernel
theorem dX12_log_45 : decode cX12_log 45 = .ok (.iadd, 1) := by decide +kernel
theorem dX12_log_46 : decode cX12_log 46 = .ok (.iload_n 2, 1) := by decide +kernel
theorem dX12_log_47 : decode cX12_log 47 = .ok (.iadd, 1) := by decide +kernel
theorem dX12_log_48 : decode cX12_log 48 = .ok (.iaload, 1) := by decide +kernel
theorem dX12_log_49 : decode cX12_log 49 = .ok (.goto 6, 3) := by decide +kernel
theorem dX12_log_52 : decode cX12_log 52 = .ok (.ldc_w 357, 3) := by decide +kernel
theorem dX12_log_55 : decode cX12_log 55 = .ok (.ireturn, 1) := by decide +kernel
set_option maxHeartbeats 4000000 in
set_option maxRecDepth 100000 in
theorem ctM_log (μ : Mm) (h : MB μ) {u v : Int} (hu : InR u) (hv : InR v) : CtI PM 1 yX12_log cX12_log 3 (some .int) [vR 0, vI u, vI v] μ (if 0 ≤ u ∧ u ≤ ((μ.1 17 37) - 1) then (if 0 ≤ v ∧ v ≤ 2 then (μ.1 17 ((((38 + (3 * (((μ.1 17 37) - 1) - u))) + v)).toNat)) else (-1000000)) else (-1000000)) := by
  refine ct_intro [some (vR 0), some (vI u), some (vI v)] RX12 (by decide) rfl XM rfl (Nat.le_of_ble_eq_true rfl) (fun K hO => ?_)
  have hr := h.now.rest
  refine aw_iload_n hO dX12_log_0 rfl rfl ?_
  refine aw_iconst hO dX12_log_1 rfl ?_
  refine aw_aload_n hO dX12_log_2 rfl rfl ?_
  refine gM_now hO dX12_log_3 rfl ?_
  refine aw_bipush hO dX12_log_6 rfl (by decide) (by decide) ?_
  refine aw_ialdn (N := 218) (i := 37) hO dX12_log_8 rfl (by decide) rfl (by decide) rfl (by decide) ?_
  refine aw_iconst hO dX12_log_9 rfl ?_
  refine aw_isub hO dX12_log_10 rfl ?_
  refine aw_callSI (as := [vI u, vI 0, vI ((μ.1 17 37) - 1)]) (st := []) hO dX12_log_11 rfl (lw_t6 172 rfl rfl) kX12_in (ctM_in μ ⟨by omega, by omega⟩ (inRlit _) ⟨by omega, by omega⟩) (by decide) rfl rfl rfl (Nat.le_of_ble_eq_true rfl) ?_
  refine aw_ifz_eq (tgt := 52) hO dX12_log_14 rfl rfl (fun c14 => ?_) (fun c14 => ?_)
  · refine aw_ldcw (a := (-1000000)) hO dX12_log_52 rfl (lw_t7 183 rfl rfl) ?_
    refine aw_iret hO dX12_log_55 ?_
    exact rI (by rw [if_neg (c14)])
  · refine aw_iload_n hO dX12_log_17 rfl rfl ?_
    refine aw_iconst hO dX12_log_18 rfl ?_
    refine aw_iconst hO dX12_log_19 rfl ?_
    refine aw_callSI (as := [vI v, vI 0, vI 2]) (st := []) hO dX12_log_20 rfl (lw_t6 172 rfl rfl) kX12_in (ctM_in μ ⟨by omega, by omega⟩ (inRlit _) (inRlit _)) (by decide) rfl rfl rfl (Nat.le_of_ble_eq_true rfl) ?_
    refine aw_ifz_eq (tgt := 52) hO dX12_log_23 rfl rfl (fun c23 => ?_) (fun c23 => ?_)
    · refine aw_ldcw (a := (-1000000)) hO dX12_log_52 rfl (lw_t7 183 rfl rfl) ?_
      refine aw_iret hO dX12_log_55 ?_
      exact rI (by rw [if_pos c14, if_neg (c23)])
    · refine aw_aload_n hO dX12_log_26 rfl rfl ?_
      refine gM_now hO dX12_log_27 rfl ?_
      refine aw_bipush hO dX12_log_30 rfl (by decide) (by decide) ?_
      refine aw_iconst hO dX12_log_32 rfl ?_
      refine aw_aload_n hO dX12_log_33 rfl rfl ?_
      refine gM_now hO dX12_log_34 rfl ?_
      refine aw_bipush hO dX12_log_37 rfl (by decide) (by decide) ?_
      refine aw_ialdn (N := 218) (i := 37) hO dX12_log_39 rfl (by decide) rfl (by decide) rfl (by decide) ?_
      refine aw_iconst hO dX12_log_40 rfl ?_
      refine aw_isub hO dX12_log_41 rfl ?_
      refine aw_iload_n hO dX12_log_42 rfl rfl ?_
      refine aw_isub hO dX12_log_43 rfl ?_
      refine aw_imul hO dX12_log_44 rfl ?_
      refine aw_iadd hO dX12_log_45 rfl ?_
      refine aw_iload_n hO dX12_log_46 rfl rfl ?_
      refine aw_iadd hO dX12_log_47 rfl ?_
      refine aw_ialdn (N := 218) (i := (((38 + (3 * (((μ.1 17 37) - 1) - u))) + v)).toNat) hO dX12_log_48 rfl (by decide) rfl (by decide) (Int.toNat_of_nonneg (by omega)).symm (by omega) ?_
      refine aw_goto (tgt := 55) hO dX12_log_49 rfl ?_
      refine aw_iret hO dX12_log_55 ?_
      exact rI (by rw [if_pos c14, if_pos c23])
theorem dX12_end_0 : decode cX12_end 0 = .ok (.iload_n 1, 1) := by decide +kernel
theorem dX12_end_1 : decode cX12_end 1 = .ok (.ifCond .lt 11, 3) := by decide +kernel
theorem dX12_end_4 : decode cX12_end 4 = .ok (.iload_n 1, 1) := by decide +kernel
theorem dX12_end_5 : decode cX12_end 5 = .ok (.aload_n 0, 1) := by decide +kernel
theorem dX12_end_6 : decode cX12_end 6 = .ok (.getfield 97, 3) := by decide +kernel
theorem dX12_end_9 : decode cX12_end 9 = .ok (.if_icmp .le 5, 3) := by decide +kernel
theorem dX12_end_12 : decode cX12_end 12 = .ok (.iconst 0, 1) := by decide +kernel
theorem dX12_end_13 : decode cX12_end 13 = .ok (.ireturn, 1) := by decide +kernel
theorem dX12_end_14 : decode cX12_end 14 = .ok (.aload_n 0, 1) := by decide +kernel
theorem dX12_end_15 : decode cX12_end 15 = .ok (.iload_n 1, 1) := by decide +kernel
theorem dX12_end_16 : decode cX12_end 16 = .ok (.putfield 97, 3) := by decide +kernel
theorem dX12_end_19 : decode cX12_end 19 = .ok (.iconst 1, 1) := by decide +kernel
theorem dX12_end_20 : decode cX12_end 20 = .ok (.ireturn, 1) := by decide +kernel
set_option maxHeartbeats 4000000 in
set_option maxRecDepth 100000 in
theorem ctM_end (μ : Mm) (hs : 0 ≤ μ.1 0 2) (hs2 : μ.1 0 2 ≤ 240) {v : Int} (hv : InR v) : CtE PM 0 yX12_end cX12_end 2 (some .boolean) [vR 0, vI v] μ (fun r m => r = (if v < 0 then 0 else (if v ≤ (μ.1 0 2) then 1 else 0)) ∧ m = (if v < 0 then μ else (if v ≤ (μ.1 0 2) then (mst μ 0 2 v) else μ))) := by
  refine ct_intro [some (vR 0), some (vI v)] RX12 (by decide) rfl XM rfl (Nat.le_of_ble_eq_true rfl) (fun K hO => ?_)
  refine aw_iload_n hO dX12_end_0 rfl rfl ?_
  refine aw_if_lt (tgt := 12) hO dX12_end_1 rfl rfl ⟨by omega, by omega⟩ (fun c1 => ?_) (fun c1 => ?_)
  · refine aw_iconst hO dX12_end_12 rfl ?_
    refine aw_zret hO dX12_end_13 (Or.inl rfl) ?_
    exact ⟨_, rfl, by rw [if_pos c1], by rw [if_pos c1]⟩
  · refine aw_iload_n hO dX12_end_4 rfl rfl ?_
    refine aw_aload_n hO dX12_end_5 rfl rfl ?_
    refine gM_size hO dX12_end_6 rfl ?_
    refine aw_icmp_le (tgt := 14) hO dX12_end_9 rfl rfl ⟨by omega, by omega⟩ ⟨by omega, by omega⟩ (fun c9 => ?_) (fun c9 => ?_)
    · refine aw_aload_n hO dX12_end_14 rfl rfl ?_
      refine aw_iload_n hO dX12_end_15 rfl rfl ?_
      refine pM_size hO dX12_end_16 rfl ?_
      refine aw_mm (fun μ1 e_μ1 => ?_)
      refine aw_iconst hO dX12_end_19 rfl ?_
      refine aw_zret hO dX12_end_20 (Or.inr rfl) ?_
      exact ⟨_, rfl, by rw [if_neg (Int.not_lt.mpr c1), if_pos c9], by rw [e_μ1, if_neg (Int.not_lt.mpr c1), if_pos c9]⟩
    · refine aw_iconst hO dX12_end_12 rfl ?_
      refine aw_zret hO dX12_end_13 (Or.inl rfl) ?_
      exact ⟨_, rfl, by rw [if_neg (Int.not_lt.mpr c1), if_neg (Int.not_le.mpr c9)], by rw [if_neg (Int.not_lt.mpr c1), if_neg (Int.not_le.mpr c9)]⟩
theorem dX12_thrown_0 : decode cX12_thrown 0 = .ok (.aload_n 0, 1) := by decide +kernel
theorem dX12_thrown_1 : decode cX12_thrown 1 = .ok (.getfield 90, 3) := by decide +kernel
theorem dX12_thrown_4 : decode cX12_thrown 4 = .ok (.ireturn, 1) := by decide +kernel
set_option maxHeartbeats 4000000 in
set_option maxRecDepth 100000 in
theorem ctM_thrown (μ : Mm) : CtI PM 0 yX12_thrown cX12_thrown 1 (some .int) [vR 0] μ (μ.1 0 0) := by
  refine ct_intro [some (vR 0)] RX12 (by decide) rfl XM rfl (Nat.le_of_ble_eq_true rfl) (fun K hO => ?_)
  refine aw_aload_n hO dX12_thrown_0 rfl rfl ?_
  refine gM_thrown hO dX12_thrown_1 rfl ?_
  refine aw_iret hO dX12_thrown_4 ?_
  exact rI (rfl)
theorem dX12_count_0 : decode cX12_count 0 = .ok (.iload_n 1, 1) := by decide +kernel
theorem dX12_count_1 : decode cX12_count 1 = .ok (.tableswitch 147 0 12 #[67, 72, 77, 82, 87, 92, 100, 108, 116, 124, 129, 134, 142], 67) := by decide +kernel
theorem dX12_count_68 : decode cX12_count 68 = .ok (.aload_n 0, 1) := by decide +kernel
theorem dX12_count_69 : decode cX12_count 69 = .ok (.getfield 242, 3) := by decide +kernel
theorem dX12_count_72 : decode cX12_count 72 = .ok (.ireturn, 1) := by decide +kernel
theorem dX12_count_73 : decode cX12_count 73 = .ok (.aload_n 0, 1) := by decide +kernel
theorem dX12_count_74 : decode cX12_count 74 = .ok (.getfield 245, 3) := by decide +kernel
theorem dX12_count_77 : decode cX12_count 77 = .ok (.ireturn, 1) := by decide +kernel
theorem dX12_count_78 : decode cX12_count 78 = .ok (.aload_n 0, 1) := by decide +kernel
theorem dX12_count_79 : decode cX12_count 79 = .ok (.getfield 261, 3) := by decide +kernel
theorem dX12_count_82 : decode cX12_count 82 = .ok (.ireturn, 1) := by decide +kernel
theorem dX12_count_83 : decode cX12_count 83 = .ok (.aload_n 0, 1) := by decide +kernel
theorem dX12_count_84 : decode cX12_count 84 = .ok (.getfield 97, 3) := by decide +kernel
theorem dX12_count_87 : decode cX12_count 87 = .ok (.ireturn, 1) := by decide +kernel
theorem dX12_count_88 : decode cX12_count 88 = .ok (.aload_n 0, 1) := by decide +kernel
theorem dX12_count_89 : decode cX12_count 89 = .ok (.getfield 64, 3) := by decide +kernel
theorem dX12_count_92 : decode cX12_count 92 = .ok (.ireturn, 1) := by decide +kernel
theorem dX12_count_93 : decode cX12_count 93 = .ok (.aload_n 0, 1) := by decide +kernel
theorem dX12_count_94 : decode cX12_count 94 = .ok (.getfield 58, 3) := by decide +kernel
theorem dX12_count_97 : decode cX12_count 97 = .ok (.bipush 36, 2) := by decide +kernel
theorem dX12_count_99 : decode cX12_count 99 = .ok (.iaload, 1) := by decide +kernel
theorem dX12_count_100 : decode cX12_count 100 = .ok (.ireturn, 1) := by decide +kernel
theorem dX12_count_101 : decode cX12_count 101 = .ok (.aload_n 0, 1) := by decide +kernel
theorem dX12_count_102 : decode cX12_count 102 = .ok (.getfield 58, 3) := by decide +kernel
theorem dX12_count_105 : decode cX12_count 105 = .ok (.bipush 29, 2) := by decide +kernel
theorem dX12_count_107 : decode cX12_count 107 = .ok (.iaload, 1) := by decide +kernel
theorem dX12_count_108 : decode cX12_count 108 = .ok (.ireturn, 1) := by decide +kernel
theorem dX12_count_109 : decode cX12_count 109 = .ok (.aload_n 0, 1) := by decide +kernel
theorem dX12_count_110 : decode cX12_count 110 = .ok (.getfield 58, 3) := by decide +kernel
theorem dX12_count_113 : decode cX12_count 113 = .ok (.bipush 30, 2) := by decide +kernel
theorem dX12_count_115 : decode cX12_count 115 = .ok (.iaload, 1) := by decide +kernel
theorem dX12_count_116 : decode cX12_count 116 = .ok (.ireturn, 1) := by decide +kernel
theorem dX12_count_117 : decode cX12_count 117 = .ok (.aload_n 0, 1) := by decide +kernel
theorem dX12_count_118 : decode cX12_count 118 = .ok (.getfield 58, 3) := by decide +kernel
theorem dX12_count_121 : decode cX12_count 121 = .ok (.bipush 32, 2) := by decide +kernel
theorem dX12_count_123 : decode cX12_count 123 = .ok (.iaload, 1) := by decide +kernel
theorem dX12_count_124 : decode cX12_count 124 = .ok (.ireturn, 1) := by decide +kernel
theorem dX12_count_125 : decode cX12_count 125 = .ok (.aload_n 0, 1) := by decide +kernel
theorem dX12_count_126 : decode cX12_count 126 = .ok (.getfield 68, 3) := by decide +kernel
theorem dX12_count_129 : decode cX12_count 129 = .ok (.ireturn, 1) := by decide +kernel
theorem dX12_count_130 : decode cX12_count 130 = .ok (.aload_n 0, 1) := by decide +kernel
theorem dX12_count_131 : decode cX12_count 131 = .ok (.getfield 248, 3) := by decide +kernel
theorem dX12_count_134 : decode cX12_count 134 = .ok (.ireturn, 1) := by decide +kernel
theorem dX12_count_135 : decode cX12_count 135 = .ok (.aload_n 0, 1) := by decide +kernel
theorem dX12_count_136 : decode cX12_count 136 = .ok (.getfield 58, 3) := by decide +kernel
theorem dX12_count_139 : decode cX12_count 139 = .ok (.bipush 37, 2) := by decide +kernel
theorem dX12_count_141 : decode cX12_count 141 = .ok (.iaload, 1) := by decide +kernel
theorem dX12_count_142 : decode cX12_count 142 = .ok (.ireturn, 1) := by decide +kernel
theorem dX12_count_143 : decode cX12_count 143 = .ok (.aload_n 0, 1) := by decide +kernel
theorem dX12_count_144 : decode cX12_count 144 = .ok (.getfield 251, 3) := by decide +kernel
theorem dX12_count_147 : decode cX12_count 147 = .ok (.ireturn, 1) := by decide +kernel
theorem dX12_count_148 : decode cX12_count 148 = .ok (.ldc_w 357, 3) := by decide +kernel
theorem dX12_count_151 : decode cX12_count 151 = .ok (.ireturn, 1) := by decide +kernel
set_option maxHeartbeats 4000000 in
set_option maxRecDepth 100000 in
theorem ctM_count (μ : Mm) {v : Int} (hv : InR v) : CtI PM 0 yX12_count cX12_count 2 (some .int) [vR 0, vI v] μ (if v = 0 then μ.1 0 25 else (if v = 1 then μ.1 0 26 else (if v = 2 then μ.1 0 13 else (if v = 3 then μ.1 0 2 else (if v = 4 then μ.1 0 29 else (if v = 5 then μ.1 17 36 else (if v = 6 then μ.1 17 29 else (if v = 7 then μ.1 17 30 else (if v = 8 then μ.1 17 32 else (if v = 9 then μ.1 0 30 else (if v = 10 then μ.1 0 41 else (if v = 11 then μ.1 17 37 else (if v = 12 then μ.1 0 35 else (-1000000)))))))))))))) := by
  refine ct_intro [some (vR 0), some (vI v)] RX12 (by decide) rfl XM rfl (Nat.le_of_ble_eq_true rfl) (fun K hO => ?_)
  refine aw_iload_n hO dX12_count_0 rfl rfl ?_
  by_cases hc0 : v = 0
  · refine aw_tableIn (tgt := 68) hO dX12_count_1 ⟨by omega, by omega⟩ (by omega) (by omega) (by rw [hc0]; rfl) rfl ?_
    refine aw_aload_n hO dX12_count_68 rfl rfl ?_
    refine gM_persons hO dX12_count_69 rfl ?_
    refine aw_iret hO dX12_count_72 ?_
    exact rI (by rw [if_pos hc0])
  by_cases hc1 : v = 1
  · refine aw_tableIn (tgt := 73) hO dX12_count_1 ⟨by omega, by omega⟩ (by omega) (by omega) (by rw [hc1]; rfl) rfl ?_
    refine aw_aload_n hO dX12_count_73 rfl rfl ?_
    refine gM_troubles hO dX12_count_74 rfl ?_
    refine aw_iret hO dX12_count_77 ?_
    exact rI (by rw [if_neg hc0, if_pos hc1])
  by_cases hc2 : v = 2
  · refine aw_tableIn (tgt := 78) hO dX12_count_1 ⟨by omega, by omega⟩ (by omega) (by omega) (by rw [hc2]; rfl) rfl ?_
    refine aw_aload_n hO dX12_count_78 rfl rfl ?_
    refine gM_laws hO dX12_count_79 rfl ?_
    refine aw_iret hO dX12_count_82 ?_
    exact rI (by rw [if_neg hc0, if_neg hc1, if_pos hc2])
  by_cases hc3 : v = 3
  · refine aw_tableIn (tgt := 83) hO dX12_count_1 ⟨by omega, by omega⟩ (by omega) (by omega) (by rw [hc3]; rfl) rfl ?_
    refine aw_aload_n hO dX12_count_83 rfl rfl ?_
    refine gM_size hO dX12_count_84 rfl ?_
    refine aw_iret hO dX12_count_87 ?_
    exact rI (by rw [if_neg hc0, if_neg hc1, if_neg hc2, if_pos hc3])
  by_cases hc4 : v = 4
  · refine aw_tableIn (tgt := 88) hO dX12_count_1 ⟨by omega, by omega⟩ (by omega) (by omega) (by rw [hc4]; rfl) rfl ?_
    refine aw_aload_n hO dX12_count_88 rfl rfl ?_
    refine gM_holding hO dX12_count_89 rfl ?_
    refine aw_iret hO dX12_count_92 ?_
    exact rI (by rw [if_neg hc0, if_neg hc1, if_neg hc2, if_neg hc3, if_pos hc4])
  by_cases hc5 : v = 5
  · refine aw_tableIn (tgt := 93) hO dX12_count_1 ⟨by omega, by omega⟩ (by omega) (by omega) (by rw [hc5]; rfl) rfl ?_
    refine aw_aload_n hO dX12_count_93 rfl rfl ?_
    refine gM_now hO dX12_count_94 rfl ?_
    refine aw_bipush hO dX12_count_97 rfl (by decide) (by decide) ?_
    refine aw_ialdn (N := 218) (i := 36) hO dX12_count_99 rfl (by decide) rfl (by decide) rfl (by decide) ?_
    refine aw_iret hO dX12_count_100 ?_
    exact rI (by rw [if_neg hc0, if_neg hc1, if_neg hc2, if_neg hc3, if_neg hc4, if_pos hc5])
  by_cases hc6 : v = 6
  · refine aw_tableIn (tgt := 101) hO dX12_count_1 ⟨by omega, by omega⟩ (by omega) (by omega) (by rw [hc6]; rfl) rfl ?_
    refine aw_aload_n hO dX12_count_101 rfl rfl ?_
    refine gM_now hO dX12_count_102 rfl ?_
    refine aw_bipush hO dX12_count_105 rfl (by decide) (by decide) ?_
    refine aw_ialdn (N := 218) (i := 29) hO dX12_count_107 rfl (by decide) rfl (by decide) rfl (by decide) ?_
    refine aw_iret hO dX12_count_108 ?_
    exact rI (by rw [if_neg hc0, if_neg hc1, if_neg hc2, if_neg hc3, if_neg hc4, if_neg hc5, if_pos hc6])
  by_cases hc7 : v = 7
  · refine aw_tableIn (tgt := 109) hO dX12_count_1 ⟨by omega, by omega⟩ (by omega) (by omega) (by rw [hc7]; rfl) rfl ?_
    refine aw_aload_n hO dX12_count_109 rfl rfl ?_
    refine gM_now hO dX12_count_110 rfl ?_
    refine aw_bipush hO dX12_count_113 rfl (by decide) (by decide) ?_
    refine aw_ialdn (N := 218) (i := 30) hO dX12_count_115 rfl (by decide) rfl (by decide) rfl (by decide) ?_
    refine aw_iret hO dX12_count_116 ?_
    exact rI (by rw [if_neg hc0, if_neg hc1, if_neg hc2, if_neg hc3, if_neg hc4, if_neg hc5, if_neg hc6, if_pos hc7])
  by_cases hc8 : v = 8
  · refine aw_tableIn (tgt := 117) hO dX12_count_1 ⟨by omega, by omega⟩ (by omega) (by omega) (by rw [hc8]; rfl) rfl ?_
    refine aw_aload_n hO dX12_count_117 rfl rfl ?_
    refine gM_now hO dX12_count_118 rfl ?_
    refine aw_bipush hO dX12_count_121 rfl (by decide) (by decide) ?_
    refine aw_ialdn (N := 218) (i := 32) hO dX12_count_123 rfl (by decide) rfl (by decide) rfl (by decide) ?_
    refine aw_iret hO dX12_count_124 ?_
    exact rI (by rw [if_neg hc0, if_neg hc1, if_neg hc2, if_neg hc3, if_neg hc4, if_neg hc5, if_neg hc6, if_neg hc7, if_pos hc8])
  by_cases hc9 : v = 9
  · refine aw_tableIn (tgt := 125) hO dX12_count_1 ⟨by omega, by omega⟩ (by omega) (by omega) (by rw [hc9]; rfl) rfl ?_
    refine aw_aload_n hO dX12_count_125 rfl rfl ?_
    refine gM_fated hO dX12_count_126 rfl ?_
    refine aw_iret hO dX12_count_129 ?_
    exact rI (by rw [if_neg hc0, if_neg hc1, if_neg hc2, if_neg hc3, if_neg hc4, if_neg hc5, if_neg hc6, if_neg hc7, if_neg hc8, if_pos hc9])
  by_cases hc10 : v = 10
  · refine aw_tableIn (tgt := 130) hO dX12_count_1 ⟨by omega, by omega⟩ (by omega) (by omega) (by rw [hc10]; rfl) rfl ?_
    refine aw_aload_n hO dX12_count_130 rfl rfl ?_
    refine gM_noted hO dX12_count_131 rfl ?_
    refine aw_iret hO dX12_count_134 ?_
    exact rI (by rw [if_neg hc0, if_neg hc1, if_neg hc2, if_neg hc3, if_neg hc4, if_neg hc5, if_neg hc6, if_neg hc7, if_neg hc8, if_neg hc9, if_pos hc10])
  by_cases hc11 : v = 11
  · refine aw_tableIn (tgt := 135) hO dX12_count_1 ⟨by omega, by omega⟩ (by omega) (by omega) (by rw [hc11]; rfl) rfl ?_
    refine aw_aload_n hO dX12_count_135 rfl rfl ?_
    refine gM_now hO dX12_count_136 rfl ?_
    refine aw_bipush hO dX12_count_139 rfl (by decide) (by decide) ?_
    refine aw_ialdn (N := 218) (i := 37) hO dX12_count_141 rfl (by decide) rfl (by decide) rfl (by decide) ?_
    refine aw_iret hO dX12_count_142 ?_
    exact rI (by rw [if_neg hc0, if_neg hc1, if_neg hc2, if_neg hc3, if_neg hc4, if_neg hc5, if_neg hc6, if_neg hc7, if_neg hc8, if_neg hc9, if_neg hc10, if_pos hc11])
  by_cases hc12 : v = 12
  · refine aw_tableIn (tgt := 143) hO dX12_count_1 ⟨by omega, by omega⟩ (by omega) (by omega) (by rw [hc12]; rfl) rfl ?_
    refine aw_aload_n hO dX12_count_143 rfl rfl ?_
    refine gM_acts hO dX12_count_144 rfl ?_
    refine aw_iret hO dX12_count_147 ?_
    exact rI (by rw [if_neg hc0, if_neg hc1, if_neg hc2, if_neg hc3, if_neg hc4, if_neg hc5, if_neg hc6, if_neg hc7, if_neg hc8, if_neg hc9, if_neg hc10, if_neg hc11, if_pos hc12])
  refine aw_tableOut (tgt := 148) hO dX12_count_1 ⟨by omega, by omega⟩ (by omega) rfl ?_
  refine aw_ldcw (a := (-1000000)) hO dX12_count_148 rfl (lw_t7 183 rfl rfl) ?_
  refine aw_iret hO dX12_count_151 ?_
  exact rI (by rw [if_neg hc0, if_neg hc1, if_neg hc2, if_neg hc3, if_neg hc4, if_neg hc5, if_neg hc6, if_neg hc7, if_neg hc8, if_neg hc9, if_neg hc10, if_neg hc11, if_neg hc12])
