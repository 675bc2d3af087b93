theorem dX12_image_0 : decode cX12_image 0 = .ok (.aload_n 0, 1) := by decide +kernel
theorem dX12_image_1 : decode cX12_image 1 = .ok (.getfield 242, 3) := by decide +kernel
theorem dX12_image_4 : decode cX12_image 4 = .ok (.ifCond .ne 5, 3) := by decide +kernel
theorem dX12_image_7 : decode cX12_image 7 = .ok (.iconst (-1), 1) := by decide +kernel
theorem dX12_image_8 : decode cX12_image 8 = .ok (.ireturn, 1) := by decide +kernel
theorem dX12_image_9 : decode cX12_image 9 = .ok (.iconst 0, 1) := by decide +kernel
theorem dX12_image_10 : decode cX12_image 10 = .ok (.istore_n 1, 1) := by decide +kernel
theorem dX12_image_11 : decode cX12_image 11 = .ok (.iload_n 1, 1) := by decide +kernel
theorem dX12_image_12 : decode cX12_image 12 = .ok (.sipush 218, 3) := by decide +kernel
theorem dX12_image_15 : decode cX12_image 15 = .ok (.if_icmp .ge 21, 3) := by decide +kernel
theorem dX12_image_18 : decode cX12_image 18 = .ok (.aload_n 0, 1) := by decide +kernel
theorem dX12_image_19 : decode cX12_image 19 = .ok (.getfield 87, 3) := by decide +kernel
theorem dX12_image_22 : decode cX12_image 22 = .ok (.iload_n 1, 1) := by decide +kernel
theorem dX12_image_23 : decode cX12_image 23 = .ok (.aload_n 0, 1) := by decide +kernel
theorem dX12_image_24 : decode cX12_image 24 = .ok (.getfield 58, 3) := by decide +kernel
theorem dX12_image_27 : decode cX12_image 27 = .ok (.iload_n 1, 1) := by decide +kernel
theorem dX12_image_28 : decode cX12_image 28 = .ok (.iaload, 1) := by decide +kernel
theorem dX12_image_29 : decode cX12_image 29 = .ok (.iastore, 1) := by decide +kernel
theorem dX12_image_30 : decode cX12_image 30 = .ok (.iinc 1 1, 3) := by decide +kernel
theorem dX12_image_33 : decode cX12_image 33 = .ok (.goto (-22), 3) := by decide +kernel
theorem dX12_image_36 : decode cX12_image 36 = .ok (.aload_n 0, 1) := by decide +kernel
theorem dX12_image_37 : decode cX12_image 37 = .ok (.iconst 1, 1) := by decide +kernel
theorem dX12_image_38 : decode cX12_image 38 = .ok (.putfield 254, 3) := by decide +kernel
theorem dX12_image_41 : decode cX12_image 41 = .ok (.aload_n 0, 1) := by decide +kernel
theorem dX12_image_42 : decode cX12_image 42 = .ok (.getfield 58, 3) := by decide +kernel
theorem dX12_image_45 : decode cX12_image 45 = .ok (.bipush 36, 2) := by decide +kernel
theorem dX12_image_47 : decode cX12_image 47 = .ok (.iaload, 1) := by decide +kernel
theorem dX12_image_48 : decode cX12_image 48 = .ok (.ireturn, 1) := by decide +kernel
set_option maxHeartbeats 4000000 in
set_option maxRecDepth 100000 in
theorem ctM_image (μ : Mm) (h : MB μ) : CtE PM 0 yX12_image cX12_image 2 (some .int) [vR 0] μ (fun r m => r = (if μ.1 0 25 = 0 then -1 else μ.1 17 36) ∧ m = (if μ.1 0 25 = 0 then μ else mst (mcp μ 24 17 0 0 218) 0 45 1)) := by
  refine ct_intro [some (vR 0), none] RX12 (by decide) rfl XM rfl (Nat.le_of_ble_eq_true rfl) (fun K hO => ?_)
  have hnp := h.np
  have body : μ.1 0 25 ≠ 0 → AW K 11 [some (vR 0), some (vI ((0 : Nat) : Int))] [] μ := by
    intro c4
    have lp : ∀ (c : Nat) (k : Nat) (m : Mm), (k + c = 218) → (m = mcp μ 24 17 0 (0) k) → AW K 11 [some (vR 0), some (vI ((k : Nat) : Int))] [] m := by
      intro c
      induction c with
      | zero =>
        intro k m hk hm
        refine aw_iload_n hO dX12_image_11 rfl rfl ?_
        refine aw_sipush hO dX12_image_12 rfl (by decide) (by decide) ?_
        refine aw_icmp_ge (tgt := 36) hO dX12_image_15 rfl rfl (inRn (by omega)) (inRlit _) (fun c15 => ?_) (fun c15 => ?_)
        · refine aw_aload_n hO dX12_image_36 rfl rfl ?_
          refine aw_iconst hO dX12_image_37 rfl ?_
          refine pM_hasImage hO dX12_image_38 rfl (Or.inr rfl) ?_
          refine aw_mm (fun μ1 e_μ1 => ?_)
          refine aw_aload_n hO dX12_image_41 rfl rfl ?_
          refine gM_now hO dX12_image_42 rfl ?_
          refine aw_bipush hO dX12_image_45 rfl (by decide) (by decide) ?_
          refine aw_ialdn (N := 218) (i := 36) hO dX12_image_47 rfl (by decide) rfl (by decide) rfl (by decide) ?_
          refine aw_iret hO dX12_image_48 ?_
          exact ⟨_, rfl, by rw [if_neg c4, e_μ1, hm, mst_nk (by decide), mcp_nk (by decide)], by rw [if_neg c4, e_μ1, hm, show k = 218 by omega]⟩
        · exact absurd c15 (by omega)
      | succ c ih =>
        intro k m hk hm
        refine aw_iload_n hO dX12_image_11 rfl rfl ?_
        refine aw_sipush hO dX12_image_12 rfl (by decide) (by decide) ?_
        refine aw_icmp_ge (tgt := 36) hO dX12_image_15 rfl rfl (inRn (by omega)) (inRlit _) (fun c15 => ?_) (fun c15 => ?_)
        · exact absurd c15 (by omega)
        · refine aw_aload_n hO dX12_image_18 rfl rfl ?_
          refine gM_image hO dX12_image_19 rfl ?_
          refine aw_iload_n hO dX12_image_22 rfl rfl ?_
          refine aw_aload_n hO dX12_image_23 rfl rfl ?_
          refine gM_now hO dX12_image_24 rfl ?_
          refine aw_iload_n hO dX12_image_27 rfl rfl ?_
          refine aw_ialdn (N := 218) (i := k) hO dX12_image_28 rfl (by decide) rfl (by decide) (by omega) (by omega) ?_
          refine aw_cg (show m.1 17 k = μ.1 17 k by rw [hm]; exact mcp_nk (by decide)) ?_
          refine aw_iastn (N := 218) (i := k) hO dX12_image_29 rfl (by decide) rfl (by decide) (by omega) (by omega) ?_
          refine aw_mm (fun μ2 e_μ2 => ?_)
          refine aw_iinc (ls' := [some (vR 0), some (vI (((k : Nat) : Int) + 1))]) hO dX12_image_30 rfl rfl rfl rfl ?_
          refine aw_lsq (ls' := [some (vR 0), some (vI (((k + 1) : Nat) : Int))]) rfl ?_
          refine aw_goto (tgt := 11) hO dX12_image_33 rfl ?_
          refine aw_lsq (ls' := [some (vR 0), some (vI (((k + 1) : Nat) : Int))]) rfl ?_
          exact ih (k + 1) μ2 (by omega) (by rw [e_μ2, hm]; have := @mcp_s μ 24 17 0 0 k; simp only [Nat.zero_add] at this; exact this)
    exact lp 218 0 μ rfl (mcp_0 _ _ _ _ _).symm
  refine aw_aload_n hO dX12_image_0 rfl rfl ?_
  refine gM_persons hO dX12_image_1 rfl ?_
  refine aw_if_ne (tgt := 9) hO dX12_image_4 rfl rfl ⟨by omega, by omega⟩ (fun c4 => ?_) (fun c4 => ?_)
  · refine aw_iconst hO dX12_image_9 rfl ?_
    refine aw_istore_n (ls' := [some (vR 0), some (vI 0)]) hO dX12_image_10 rfl (Nat.le_of_ble_eq_true rfl) rfl rfl ?_
    refine aw_lsq (ls' := [some (vR 0), some (vI ((0 : Nat) : Int))]) rfl ?_
    exact body c4
  · refine aw_iconst hO dX12_image_7 rfl ?_
    refine aw_iret hO dX12_image_8 ?_
    exact ⟨_, rfl, by rw [if_pos c4], by rw [if_pos c4]⟩
theorem dX12_back_0 : decode cX12_back 0 = .ok (.aload_n 0, 1) := by decide +kernel
theorem dX12_back_1 : decode cX12_back 1 = .ok (.getfield 254, 3) := by decide +kernel
theorem dX12_back_4 : decode cX12_back 4 = .ok (.ifCond .ne 5, 3) := by decide +kernel
theorem dX12_back_7 : decode cX12_back 7 = .ok (.iconst (-1), 1) := by decide +kernel
theorem dX12_back_8 : decode cX12_back 8 = .ok (.ireturn, 1) := by decide +kernel
theorem dX12_back_9 : decode cX12_back 9 = .ok (.iconst 0, 1) := by decide +kernel
theorem dX12_back_10 : decode cX12_back 10 = .ok (.istore_n 1, 1) := by decide +kernel
theorem dX12_back_11 : decode cX12_back 11 = .ok (.iload_n 1, 1) := by decide +kernel
theorem dX12_back_12 : decode cX12_back 12 = .ok (.sipush 218, 3) := by decide +kernel
theorem dX12_back_15 : decode cX12_back 15 = .ok (.if_icmp .ge 21, 3) := by decide +kernel
theorem dX12_back_18 : decode cX12_back 18 = .ok (.aload_n 0, 1) := by decide +kernel
theorem dX12_back_19 : decode cX12_back 19 = .ok (.getfield 58, 3) := by decide +kernel
theorem dX12_back_22 : decode cX12_back 22 = .ok (.iload_n 1, 1) := by decide +kernel
theorem dX12_back_23 : decode cX12_back 23 = .ok (.aload_n 0, 1) := by decide +kernel
theorem dX12_back_24 : decode cX12_back 24 = .ok (.getfield 87, 3) := by decide +kernel
theorem dX12_back_27 : decode cX12_back 27 = .ok (.iload_n 1, 1) := by decide +kernel
theorem dX12_back_28 : decode cX12_back 28 = .ok (.iaload, 1) := by decide +kernel
theorem dX12_back_29 : decode cX12_back 29 = .ok (.iastore, 1) := by decide +kernel
theorem dX12_back_30 : decode cX12_back 30 = .ok (.iinc 1 1, 3) := by decide +kernel
theorem dX12_back_33 : decode cX12_back 33 = .ok (.goto (-22), 3) := by decide +kernel
theorem dX12_back_36 : decode cX12_back 36 = .ok (.aload_n 0, 1) := by decide +kernel
theorem dX12_back_37 : decode cX12_back 37 = .ok (.iconst 0, 1) := by decide +kernel
theorem dX12_back_38 : decode cX12_back 38 = .ok (.putfield 251, 3) := by decide +kernel
theorem dX12_back_41 : decode cX12_back 41 = .ok (.aload_n 0, 1) := by decide +kernel
theorem dX12_back_42 : decode cX12_back 42 = .ok (.getfield 58, 3) := by decide +kernel
theorem dX12_back_45 : decode cX12_back 45 = .ok (.bipush 36, 2) := by decide +kernel
theorem dX12_back_47 : decode cX12_back 47 = .ok (.iaload, 1) := by decide +kernel
theorem dX12_back_48 : decode cX12_back 48 = .ok (.ireturn, 1) := by decide +kernel
set_option maxHeartbeats 4000000 in
set_option maxRecDepth 100000 in
theorem ctM_back (μ : Mm) (hz : 0 ≤ μ.1 0 45) (hz2 : μ.1 0 45 ≤ 1) : CtE PM 0 yX12_back cX12_back 2 (some .int) [vR 0] μ (fun r m => r = (if μ.1 0 45 = 0 then -1 else μ.1 24 36) ∧ m = (if μ.1 0 45 = 0 then μ else mst (mcp μ 17 24 0 0 218) 0 35 0)) := by
  refine ct_intro [some (vR 0), none] RX12 (by decide) rfl XM rfl (Nat.le_of_ble_eq_true rfl) (fun K hO => ?_)
  have body : μ.1 0 45 ≠ 0 → AW K 11 [some (vR 0), some (vI ((0 : Nat) : Int))] [] μ := by
    intro c4
    have lp : ∀ (c : Nat) (k : Nat) (m : Mm), (k + c = 218) → (m = mcp μ 17 24 0 (0) k) → AW K 11 [some (vR 0), some (vI ((k : Nat) : Int))] [] m := by
      intro c
      induction c with
      | zero =>
        intro k m hk hm
        refine aw_iload_n hO dX12_back_11 rfl rfl ?_
        refine aw_sipush hO dX12_back_12 rfl (by decide) (by decide) ?_
        refine aw_icmp_ge (tgt := 36) hO dX12_back_15 rfl rfl (inRn (by omega)) (inRlit _) (fun c15 => ?_) (fun c15 => ?_)
        · refine aw_aload_n hO dX12_back_36 rfl rfl ?_
          refine aw_iconst hO dX12_back_37 rfl ?_
          refine pM_acts hO dX12_back_38 rfl ?_
          refine aw_mm (fun μ1 e_μ1 => ?_)
          refine aw_aload_n hO dX12_back_41 rfl rfl ?_
          refine gM_now hO dX12_back_42 rfl ?_
          refine aw_bipush hO dX12_back_45 rfl (by decide) (by decide) ?_
          refine aw_ialdn (N := 218) (i := 36) hO dX12_back_47 rfl (by decide) rfl (by decide) rfl (by decide) ?_
          refine aw_iret hO dX12_back_48 ?_
          exact ⟨_, rfl, by rw [if_neg c4, e_μ1, hm, mst_nk (by decide), mcp_in (by omega) (by omega)], by rw [if_neg c4, e_μ1, hm, show k = 218 by omega]⟩
        · exact absurd c15 (by omega)
      | succ c ih =>
        intro k m hk hm
        refine aw_iload_n hO dX12_back_11 rfl rfl ?_
        refine aw_sipush hO dX12_back_12 rfl (by decide) (by decide) ?_
        refine aw_icmp_ge (tgt := 36) hO dX12_back_15 rfl rfl (inRn (by omega)) (inRlit _) (fun c15 => ?_) (fun c15 => ?_)
        · exact absurd c15 (by omega)
        · refine aw_aload_n hO dX12_back_18 rfl rfl ?_
          refine gM_now hO dX12_back_19 rfl ?_
          refine aw_iload_n hO dX12_back_22 rfl rfl ?_
          refine aw_aload_n hO dX12_back_23 rfl rfl ?_
          refine gM_image hO dX12_back_24 rfl ?_
          refine aw_iload_n hO dX12_back_27 rfl rfl ?_
          refine aw_ialdn (N := 218) (i := k) hO dX12_back_28 rfl (by decide) rfl (by decide) (by omega) (by omega) ?_
          refine aw_cg (show m.1 24 k = μ.1 24 k by rw [hm]; exact mcp_nk (by decide)) ?_
          refine aw_iastn (N := 218) (i := k) hO dX12_back_29 rfl (by decide) rfl (by decide) (by omega) (by omega) ?_
          refine aw_mm (fun μ2 e_μ2 => ?_)
          refine aw_iinc (ls' := [some (vR 0), some (vI (((k : Nat) : Int) + 1))]) hO dX12_back_30 rfl rfl rfl rfl ?_
          refine aw_lsq (ls' := [some (vR 0), some (vI (((k + 1) : Nat) : Int))]) rfl ?_
          refine aw_goto (tgt := 11) hO dX12_back_33 rfl ?_
          refine aw_lsq (ls' := [some (vR 0), some (vI (((k + 1) : Nat) : Int))]) rfl ?_
          exact ih (k + 1) μ2 (by omega) (by rw [e_μ2, hm]; have := @mcp_s μ 17 24 0 0 k; simp only [Nat.zero_add] at this; exact this)
    exact lp 218 0 μ rfl (mcp_0 _ _ _ _ _).symm
  refine aw_aload_n hO dX12_back_0 rfl rfl ?_
  refine gM_hasImage hO dX12_back_1 rfl ?_
  refine aw_if_ne (tgt := 9) hO dX12_back_4 rfl rfl ⟨by omega, by omega⟩ (fun c4 => ?_) (fun c4 => ?_)
  · refine aw_iconst hO dX12_back_9 rfl ?_
    refine aw_istore_n (ls' := [some (vR 0), some (vI 0)]) hO dX12_back_10 rfl (Nat.le_of_ble_eq_true rfl) rfl rfl ?_
    refine aw_lsq (ls' := [some (vR 0), some (vI ((0 : Nat) : Int))]) rfl ?_
    exact body c4
  · refine aw_iconst hO dX12_back_7 rfl ?_
    refine aw_iret hO dX12_back_8 ?_
    exact ⟨_, rfl, by rw [if_pos c4], by rw [if_pos c4]⟩
theorem dX12_undo_0 : decode cX12_undo 0 = .ok (.aload_n 0, 1) := by decide +kernel
theorem dX12_undo_1 : decode cX12_undo 1 = .ok (.getfield 251, 3) := by decide +kernel
theorem dX12_undo_4 : decode cX12_undo 4 = .ok (.ifCond .ne 5, 3) := by decide +kernel
theorem dX12_undo_7 : decode cX12_undo 7 = .ok (.iconst (-1), 1) := by decide +kernel
theorem dX12_undo_8 : decode cX12_undo 8 = .ok (.ireturn, 1) := by decide +kernel
theorem dX12_undo_9 : decode cX12_undo 9 = .ok (.aload_n 0, 1) := by decide +kernel
theorem dX12_undo_10 : decode cX12_undo 10 = .ok (.dup, 1) := by decide +kernel
theorem dX12_undo_11 : decode cX12_undo 11 = .ok (.getfield 251, 3) := by decide +kernel
theorem dX12_undo_14 : decode cX12_undo 14 = .ok (.iconst 1, 1) := by decide +kernel
theorem dX12_undo_15 : decode cX12_undo 15 = .ok (.isub, 1) := by decide +kernel
theorem dX12_undo_16 : decode cX12_undo 16 = .ok (.putfield 251, 3) := by decide +kernel
theorem dX12_undo_19 : decode cX12_undo 19 = .ok (.iconst 0, 1) := by decide +kernel
theorem dX12_undo_20 : decode cX12_undo 20 = .ok (.istore_n 1, 1) := by decide +kernel
theorem dX12_undo_21 : decode cX12_undo 21 = .ok (.iload_n 1, 1) := by decide +kernel
theorem dX12_undo_22 : decode cX12_undo 22 = .ok (.sipush 218, 3) := by decide +kernel
theorem dX12_undo_25 : decode cX12_undo 25 = .ok (.if_icmp .ge 30, 3) := by decide +kernel
theorem dX12_undo_28 : decode cX12_undo 28 = .ok (.aload_n 0, 1) := by decide +kernel
theorem dX12_undo_29 : decode cX12_undo 29 = .ok (.getfield 58, 3) := by decide +kernel
theorem dX12_undo_32 : decode cX12_undo 32 = .ok (.iload_n 1, 1) := by decide +kernel
theorem dX12_undo_33 : decode cX12_undo 33 = .ok (.aload_n 0, 1) := by decide +kernel
theorem dX12_undo_34 : decode cX12_undo 34 = .ok (.getfield 71, 3) := by decide +kernel
theorem dX12_undo_37 : decode cX12_undo 37 = .ok (.sipush 218, 3) := by decide +kernel
theorem dX12_undo_40 : decode cX12_undo 40 = .ok (.aload_n 0, 1) := by decide +kernel
theorem dX12_undo_41 : decode cX12_undo 41 = .ok (.getfield 251, 3) := by decide +kernel
theorem dX12_undo_44 : decode cX12_undo 44 = .ok (.imul, 1) := by decide +kernel
theorem dX12_undo_45 : decode cX12_undo 45 = .ok (.iload_n 1, 1) := by decide +kernel
theorem dX12_undo_46 : decode cX12_undo 46 = .ok (.iadd, 1) := by decide +kernel
theorem dX12_undo_47 : decode cX12_undo 47 = .ok (.iaload, 1) := by decide +kernel
theorem dX12_undo_48 : decode cX12_undo 48 = .ok (.iastore, 1) := by decide +kernel
theorem dX12_undo_49 : decode cX12_undo 49 = .ok (.iinc 1 1, 3) := by decide +kernel
theorem dX12_undo_52 : decode cX12_undo 52 = .ok (.goto (-31), 3) := by decide +kernel
theorem dX12_undo_55 : decode cX12_undo 55 = .ok (.aload_n 0, 1) := by decide +kernel
theorem dX12_undo_56 : decode cX12_undo 56 = .ok (.getfield 251, 3) := by decide +kernel
theorem dX12_undo_59 : decode cX12_undo 59 = .ok (.ireturn, 1) := by decide +kernel
set_option maxHeartbeats 4000000 in
set_option maxRecDepth 100000 in
theorem ctM_undo (μ : Mm) (ha : 0 ≤ μ.1 0 35) (ha2 : μ.1 0 35 ≤ 40) : CtE PM 0 yX12_undo cX12_undo 2 (some .int) [vR 0] μ (fun r m => r = (if μ.1 0 35 = 0 then -1 else μ.1 0 35 - 1) ∧ m = (if μ.1 0 35 = 0 then μ else mcp (mst μ 0 35 (μ.1 0 35 - 1)) 17 19 0 (218 * (μ.1 0 35 - 1).toNat) 218)) := by
  refine ct_intro [some (vR 0), none] RX12 (by decide) rfl XM rfl (Nat.le_of_ble_eq_true rfl) (fun K hO => ?_)
  have body : μ.1 0 35 ≠ 0 → AW K 21 [some (vR 0), some (vI ((0 : Nat) : Int))] [] (mst μ 0 35 (μ.1 0 35 - 1)) := by
    intro c4
    refine aw_mm (fun b eb => ?_)
    have hb35 : b.1 0 35 = ((μ.1 0 35 - 1).toNat : Nat) := by rw [eb, mst_eq]; omega
    have lp : ∀ (c : Nat) (k : Nat) (m : Mm), (k + c = 218) → (m = mcp b 17 19 0 (218 * (μ.1 0 35 - 1).toNat) k) → AW K 21 [some (vR 0), some (vI ((k : Nat) : Int))] [] m := by
      intro c
      induction c with
      | zero =>
        intro k m hk hm
        refine aw_iload_n hO dX12_undo_21 rfl rfl ?_
        refine aw_sipush hO dX12_undo_22 rfl (by decide) (by decide) ?_
        refine aw_icmp_ge (tgt := 55) hO dX12_undo_25 rfl rfl (inRn (by omega)) (inRlit _) (fun c25 => ?_) (fun c25 => ?_)
        · refine aw_aload_n hO dX12_undo_55 rfl rfl ?_
          refine gM_acts hO dX12_undo_56 rfl ?_
          refine aw_cg (show m.1 0 35 = (((μ.1 0 35 - 1).toNat : Nat) : Int) by rw [hm, mcp_nk (by decide)]; exact hb35) ?_
          refine aw_iret hO dX12_undo_59 ?_
          exact ⟨_, rfl, by rw [if_neg c4]; omega, by rw [if_neg c4, hm, eb, show k = 218 by omega]⟩
        · exact absurd c25 (by omega)
      | succ c ih =>
        intro k m hk hm
        refine aw_iload_n hO dX12_undo_21 rfl rfl ?_
        refine aw_sipush hO dX12_undo_22 rfl (by decide) (by decide) ?_
        refine aw_icmp_ge (tgt := 55) hO dX12_undo_25 rfl rfl (inRn (by omega)) (inRlit _) (fun c25 => ?_) (fun c25 => ?_)
        · exact absurd c25 (by omega)
        · refine aw_aload_n hO dX12_undo_28 rfl rfl ?_
          refine gM_now hO dX12_undo_29 rfl ?_
          refine aw_iload_n hO dX12_undo_32 rfl rfl ?_
          refine aw_aload_n hO dX12_undo_33 rfl rfl ?_
          refine gM_kept hO dX12_undo_34 rfl ?_
          refine aw_sipush hO dX12_undo_37 rfl (by decide) (by decide) ?_
          refine aw_aload_n hO dX12_undo_40 rfl rfl ?_
          refine gM_acts hO dX12_undo_41 rfl ?_
          refine aw_cg (show m.1 0 35 = (((μ.1 0 35 - 1).toNat : Nat) : Int) by rw [hm, mcp_nk (by decide)]; exact hb35) ?_
          refine aw_imul hO dX12_undo_44 rfl ?_
          refine aw_iload_n hO dX12_undo_45 rfl rfl ?_
          refine aw_iadd hO dX12_undo_46 rfl ?_
          refine aw_ialdn (N := 8720) (i := ((218 * (μ.1 0 35 - 1).toNat) + k)) hO dX12_undo_47 rfl (by decide) rfl (by decide) (by omega) (by omega) ?_
          refine aw_cg (show m.1 19 ((218 * (μ.1 0 35 - 1).toNat) + k) = b.1 19 ((218 * (μ.1 0 35 - 1).toNat) + k) by rw [hm]; exact mcp_nk (by decide)) ?_
          refine aw_iastn (N := 218) (i := k) hO dX12_undo_48 rfl (by decide) rfl (by decide) (by omega) (by omega) ?_
          refine aw_mm (fun μ1 e_μ1 => ?_)
          refine aw_iinc (ls' := [some (vR 0), some (vI (((k : Nat) : Int) + 1))]) hO dX12_undo_49 rfl rfl rfl rfl ?_
          refine aw_lsq (ls' := [some (vR 0), some (vI (((k + 1) : Nat) : Int))]) rfl ?_
          refine aw_goto (tgt := 21) hO dX12_undo_52 rfl ?_
          refine aw_lsq (ls' := [some (vR 0), some (vI (((k + 1) : Nat) : Int))]) rfl ?_
          exact ih (k + 1) μ1 (by omega) (by rw [e_μ1, hm]; have := @mcp_s b 17 19 0 (218 * (μ.1 0 35 - 1).toNat) k; simp only [Nat.zero_add] at this; exact this)
    exact lp 218 0 b rfl (mcp_0 _ _ _ _ _).symm
  refine aw_aload_n hO dX12_undo_0 rfl rfl ?_
  refine gM_acts hO dX12_undo_1 rfl ?_
  refine aw_if_ne (tgt := 9) hO dX12_undo_4 rfl rfl ⟨by omega, by omega⟩ (fun c4 => ?_) (fun c4 => ?_)
  · refine aw_aload_n hO dX12_undo_9 rfl rfl ?_
    refine aw_dup hO dX12_undo_10 rfl rfl ?_
    refine gM_acts hO dX12_undo_11 rfl ?_
    refine aw_iconst hO dX12_undo_14 rfl ?_
    refine aw_isub hO dX12_undo_15 rfl ?_
    refine pM_acts hO dX12_undo_16 rfl ?_
    refine aw_mm (fun μ2 e_μ2 => ?_)
    refine aw_iconst hO dX12_undo_19 rfl ?_
    refine aw_istore_n (ls' := [some (vR 0), some (vI 0)]) hO dX12_undo_20 rfl (Nat.le_of_ble_eq_true rfl) rfl rfl ?_
    refine aw_lsq (ls' := [some (vR 0), some (vI ((0 : Nat) : Int))]) rfl ?_
    rw [e_μ2]
    exact body c4
  · refine aw_iconst hO dX12_undo_7 rfl ?_
    refine aw_iret hO dX12_undo_8 ?_
    exact ⟨_, rfl, by rw [if_pos c4], by rw [if_pos c4]⟩

/-- what is kept, the memory with it -/
def kepM (μ : Mm) : Mm := mst (mrow μ 19 (kepF (μ.1 19) (μ.1 17) (μ.1 0 35))) 0 35 (kepA (μ.1 0 35) + 1)
theorem kepM_nk {μ : Mm} {k i : Nat} (h1 : k ≠ 19) (h2 : k ≠ 0 ∨ i ≠ 35) : (kepM μ).1 k i = μ.1 k i := by
  unfold kepM
  rcases h2 with h2 | h2
  · rw [mst_nk h2, mrow_nk h1]
  · rw [mst_ni h2, mrow_nk h1]
def refM (μ : Mm) (w : Int) : Mm := mst μ 18 w.toNat (μ.1 18 w.toNat + 1)
theorem MB_eq {μ m : Mm} (h : MB μ) (h25 : m.1 0 25 = μ.1 0 25) (h26 : m.1 0 26 = μ.1 0 26) (h14 : m.1 14 = μ.1 14) (h15 : m.1 15 = μ.1 15) (h16 : m.1 16 = μ.1 16) (h17 : m.1 17 = μ.1 17) : MB m := by
  unfold MB at *
  rw [h25, h26, h14, h15, h16, h17]
  exact h
theorem kepM_fn {μ : Mm} {k : Nat} (h1 : k ≠ 19) (h2 : k ≠ 0) : (kepM μ).1 k = μ.1 k := funext fun i => kepM_nk h1 (Or.inl h2)
theorem kepM_MB {μ : Mm} (h : MB μ) : MB (kepM μ) := MB_eq h (kepM_nk (by decide) (Or.inr (by decide))) (kepM_nk (by decide) (Or.inr (by decide))) (kepM_fn (by decide) (by decide)) (kepM_fn (by decide) (by decide)) (kepM_fn (by decide) (by decide)) (kepM_fn (by decide) (by decide))
def giveW (μ : Mm) (v : Int) : Int := if μ.1 0 25 = 0 then 0 else if ¬ (1 ≤ v ∧ v ≤ 50) then 1 else if 999 < μ.1 17 33 + v then 1 else -1
theorem dX12_give_0 : decode cX12_give 0 = .ok (.aload_n 0, 1) := by decide +kernel
theorem dX12_give_1 : decode cX12_give 1 = .ok (.aload_n 0, 1) := by decide +kernel
theorem dX12_give_2 : decode cX12_give 2 = .ok (.getfield 242, 3) := by decide +kernel
theorem dX12_give_5 : decode cX12_give 5 = .ok (.ifCond .ne 7, 3) := by decide +kernel
theorem dX12_give_8 : decode cX12_give 8 = .ok (.iconst 0, 1) := by decide +kernel
theorem dX12_give_9 : decode cX12_give 9 = .ok (.goto 33, 3) := by decide +kernel
theorem dX12_give_12 : decode cX12_give 12 = .ok (.iload_n 1, 1) := by decide +kernel
theorem dX12_give_13 : decode cX12_give 13 = .ok (.iconst 1, 1) := by decide +kernel
theorem dX12_give_14 : decode cX12_give 14 = .ok (.bipush 50, 2) := by decide +kernel
theorem dX12_give_16 : decode cX12_give 16 = .ok (.invokestatic 205, 3) := by decide +kernel
theorem dX12_give_19 : decode cX12_give 19 = .ok (.ifCond .eq 18, 3) := by decide +kernel
theorem dX12_give_22 : decode cX12_give 22 = .ok (.aload_n 0, 1) := by decide +kernel
theorem dX12_give_23 : decode cX12_give 23 = .ok (.getfield 58, 3) := by decide +kernel
theorem dX12_give_26 : decode cX12_give 26 = .ok (.bipush 33, 2) := by decide +kernel
theorem dX12_give_28 : decode cX12_give 28 = .ok (.iaload, 1) := by decide +kernel
theorem dX12_give_29 : decode cX12_give 29 = .ok (.iload_n 1, 1) := by decide +kernel
theorem dX12_give_30 : decode cX12_give 30 = .ok (.iadd, 1) := by decide +kernel
theorem dX12_give_31 : decode cX12_give 31 = .ok (.sipush 999, 3) := by decide +kernel
theorem dX12_give_34 : decode cX12_give 34 = .ok (.if_icmp .le 7, 3) := by decide +kernel
theorem dX12_give_37 : decode cX12_give 37 = .ok (.iconst 1, 1) := by decide +kernel
theorem dX12_give_38 : decode cX12_give 38 = .ok (.goto 4, 3) := by decide +kernel
theorem dX12_give_41 : decode cX12_give 41 = .ok (.iconst (-1), 1) := by decide +kernel
theorem dX12_give_42 : decode cX12_give 42 = .ok (.invokevirtual 325, 3) := by decide +kernel
theorem dX12_give_45 : decode cX12_give 45 = .ok (.ifCond .eq 5, 3) := by decide +kernel
theorem dX12_give_48 : decode cX12_give 48 = .ok (.iconst (-1), 1) := by decide +kernel
theorem dX12_give_49 : decode cX12_give 49 = .ok (.ireturn, 1) := by decide +kernel
theorem dX12_give_50 : decode cX12_give 50 = .ok (.aload_n 0, 1) := by decide +kernel
theorem dX12_give_51 : decode cX12_give 51 = .ok (.invokevirtual 328, 3) := by decide +kernel
theorem dX12_give_54 : decode cX12_give 54 = .ok (.aload_n 0, 1) := by decide +kernel
theorem dX12_give_55 : decode cX12_give 55 = .ok (.getfield 58, 3) := by decide +kernel
theorem dX12_give_58 : decode cX12_give 58 = .ok (.bipush 33, 2) := by decide +kernel
theorem dX12_give_60 : decode cX12_give 60 = .ok (.dup2, 1) := by decide +kernel
theorem dX12_give_61 : decode cX12_give 61 = .ok (.iaload, 1) := by decide +kernel
theorem dX12_give_62 : decode cX12_give 62 = .ok (.iload_n 1, 1) := by decide +kernel
theorem dX12_give_63 : decode cX12_give 63 = .ok (.iadd, 1) := by decide +kernel
theorem dX12_give_64 : decode cX12_give 64 = .ok (.iastore, 1) := by decide +kernel
theorem dX12_give_65 : decode cX12_give 65 = .ok (.aload_n 0, 1) := by decide +kernel
theorem dX12_give_66 : decode cX12_give 66 = .ok (.getfield 58, 3) := by decide +kernel
theorem dX12_give_69 : decode cX12_give 69 = .ok (.bipush 33, 2) := by decide +kernel
theorem dX12_give_71 : decode cX12_give 71 = .ok (.iaload, 1) := by decide +kernel
theorem dX12_give_72 : decode cX12_give 72 = .ok (.ireturn, 1) := by decide +kernel
set_option maxHeartbeats 4000000 in
set_option maxRecDepth 100000 in
theorem ctM_give (μ : Mm) (h : MB μ) (ha : 0 ≤ μ.1 0 35) (ha2 : μ.1 0 35 ≤ 40) {v : Int} (hv : InR v) : CtE PM 3 yX12_give cX12_give 2 (some .int) [vR 0, vI v] μ (fun r m => if giveW μ v = -1 then r = μ.1 17 33 + v ∧ m = mst (kepM μ) 17 33 (μ.1 17 33 + v) else r = -1 ∧ m = refM μ (giveW μ v)) := by
  refine ct_intro [some (vR 0), some (vI v)] RX12 (by decide) rfl XM rfl (Nat.le_of_ble_eq_true rfl) (fun K hO => ?_)
  have hnp := h.np
  have hr := h.now.rest
  have hwr : -1 ≤ (giveW μ v) ∧ (giveW μ v) ≤ 4 := by unfold giveW; (repeat' split) <;> omega
  have j : AW K 42 [some (vR 0), some (vI v)] [vI (giveW μ v), vR 0] μ := by
    refine aw_callVE (as := [vI (giveW μ v)]) (st := []) hO dX12_give_42 rfl (lw_t7 59 rfl rfl) kX12_isRefused (T := TX12) rfl (by decide) rfl (ctM_isRefused μ (v := (giveW μ v)) (by omega) (by omega)) (by decide) rfl rfl rfl (Nat.le_of_ble_eq_true rfl) (fun v1 μ2 hq3 => ?_)
    obtain ⟨e_v1, e_μ2⟩ := hq3
    rw [show (if (giveW μ v) = -1 then (0 : Int) else 1) = (if (giveW μ v) ≠ -1 then 1 else 0) by by_cases q : (giveW μ v) = -1 <;> simp [q]] at e_v1
    refine aw_cg e_v1 ?_
    refine aw_ifz_eq (tgt := 50) hO dX12_give_45 rfl rfl (fun c45 => ?_) (fun c45 => ?_)
    · have c45b : giveW μ v = -1 := Classical.byContradiction c45
      rw [if_pos c45b] at e_μ2
      have hM := e_μ2
      refine aw_aload_n hO dX12_give_50 rfl rfl ?_
      refine aw_callVV (as := []) (st := []) hO dX12_give_51 rfl (lw_t7 63 rfl rfl) kX12_keep (T := TX12) rfl (by decide) rfl (ctM_keep μ2 (by rw [hM]; exact ha) (by rw [hM]; exact ha2)) (by decide) rfl rfl rfl (Nat.le_of_ble_eq_true rfl) (fun μ5 hq6 => ?_)
      have ek_μ5 : μ5 = kepM μ2 := hq6
      have hx : μ5.1 17 33 = μ.1 17 33 := by rw [ek_μ5, hM]; exact kepM_nk (by decide) (Or.inl (by decide))
      refine aw_aload_n hO dX12_give_54 rfl rfl ?_
      refine gM_now hO dX12_give_55 rfl ?_
      refine aw_bipush hO dX12_give_58 rfl (by decide) (by decide) ?_
      refine aw_dup2 hO dX12_give_60 rfl rfl rfl ?_
      refine aw_ialdn (N := 218) (i := 33) hO dX12_give_61 rfl (by decide) rfl (by decide) rfl (by decide) ?_
      refine aw_iload_n hO dX12_give_62 rfl rfl ?_
      refine aw_iadd hO dX12_give_63 rfl ?_
      refine aw_iastn (N := 218) (i := 33) hO dX12_give_64 rfl (by decide) rfl (by decide) rfl (by decide) ?_
      refine aw_mm (fun μ7 e_μ7 => ?_)
      refine aw_aload_n hO dX12_give_65 rfl rfl ?_
      refine gM_now hO dX12_give_66 rfl ?_
      refine aw_bipush hO dX12_give_69 rfl (by decide) (by decide) ?_
      refine aw_ialdn (N := 218) (i := 33) hO dX12_give_71 rfl (by decide) rfl (by decide) rfl (by decide) ?_
      refine aw_iret hO dX12_give_72 ?_
      exact ⟨_, rfl, by dsimp only; rw [if_pos c45b]; exact ⟨by rw [e_μ7, mst_eq, hx], by rw [e_μ7, hx, ek_μ5, hM]⟩⟩
    · rw [if_neg c45] at e_μ2
      refine aw_iconst hO dX12_give_48 rfl ?_
      refine aw_iret hO dX12_give_49 ?_
      exact ⟨_, rfl, by dsimp only; rw [if_neg c45]; exact ⟨rfl, e_μ2⟩⟩
  refine aw_aload_n hO dX12_give_0 rfl rfl ?_
  refine aw_aload_n hO dX12_give_1 rfl rfl ?_
  refine gM_persons hO dX12_give_2 rfl ?_
  refine aw_if_ne (tgt := 12) hO dX12_give_5 rfl rfl ⟨by omega, by omega⟩ (fun c5 => ?_) (fun c5 => ?_)
  · refine aw_iload_n hO dX12_give_12 rfl rfl ?_
    refine aw_iconst hO dX12_give_13 rfl ?_
    refine aw_bipush hO dX12_give_14 rfl (by decide) (by decide) ?_
    refine aw_callSI (as := [vI v, vI 1, vI 50]) (st := [vR 0]) hO dX12_give_16 rfl (lw_t6 172 rfl rfl) kX12_in (ctM_in μ ⟨by omega, by omega⟩ (inRlit _) (inRlit _)) (by decide) rfl rfl rfl (Nat.le_of_ble_eq_true rfl) ?_
    refine aw_ifz_eq (tgt := 37) hO dX12_give_19 rfl rfl (fun c19 => ?_) (fun c19 => ?_)
    · refine aw_iconst hO dX12_give_37 rfl ?_
      refine aw_goto (tgt := 42) hO dX12_give_38 rfl ?_
      refine aw_cg (show (1 : Int) = (giveW μ v) by unfold giveW; rw [if_neg c5, if_pos c19]) ?_
      exact j
    · refine aw_aload_n hO dX12_give_22 rfl rfl ?_
      refine gM_now hO dX12_give_23 rfl ?_
      refine aw_bipush hO dX12_give_26 rfl (by decide) (by decide) ?_
      refine aw_ialdn (N := 218) (i := 33) hO dX12_give_28 rfl (by decide) rfl (by decide) rfl (by decide) ?_
      refine aw_iload_n hO dX12_give_29 rfl rfl ?_
      refine aw_iadd hO dX12_give_30 rfl ?_
      refine aw_sipush hO dX12_give_31 rfl (by decide) (by decide) ?_
      refine aw_icmp_le (tgt := 41) hO dX12_give_34 rfl rfl ⟨by omega, by omega⟩ (inRlit _) (fun c34 => ?_) (fun c34 => ?_)
      · refine aw_iconst hO dX12_give_41 rfl ?_
        refine aw_cg (show ((-1) : Int) = (giveW μ v) by unfold giveW; rw [if_neg c5, if_neg (fun q => q c19), if_neg (Int.not_lt.mpr c34)]) ?_
        exact j
      · refine aw_iconst hO dX12_give_37 rfl ?_
        refine aw_goto (tgt := 42) hO dX12_give_38 rfl ?_
        refine aw_cg (show (1 : Int) = (giveW μ v) by unfold giveW; rw [if_neg c5, if_neg (fun q => q c19), if_pos c34]) ?_
        exact j
  · refine aw_iconst hO dX12_give_8 rfl ?_
    refine aw_goto (tgt := 42) hO dX12_give_9 rfl ?_
    refine aw_cg (show (0 : Int) = (giveW μ v) by unfold giveW; rw [if_pos c5]) ?_
    exact j
def leavW (μ : Mm) (v : Int) : Int := if ¬ (0 ≤ v ∧ v < μ.1 0 25) then 0 else if μ.1 17 33 < 2 then 3 else -1
theorem dX12_leaves_0 : decode cX12_leaves 0 = .ok (.aload_n 0, 1) := by decide +kernel
theorem dX12_leaves_1 : decode cX12_leaves 1 = .ok (.aload_n 0, 1) := by decide +kernel
theorem dX12_leaves_2 : decode cX12_leaves 2 = .ok (.iload_n 1, 1) := by decide +kernel
theorem dX12_leaves_3 : decode cX12_leaves 3 = .ok (.invokevirtual 313, 3) := by decide +kernel
theorem dX12_leaves_6 : decode cX12_leaves 6 = .ok (.ifCond .ne 7, 3) := by decide +kernel
theorem dX12_leaves_9 : decode cX12_leaves 9 = .ok (.iconst 0, 1) := by decide +kernel
theorem dX12_leaves_10 : decode cX12_leaves 10 = .ok (.goto 19, 3) := by decide +kernel
theorem dX12_leaves_13 : decode cX12_leaves 13 = .ok (.aload_n 0, 1) := by decide +kernel
theorem dX12_leaves_14 : decode cX12_leaves 14 = .ok (.getfield 58, 3) := by decide +kernel
theorem dX12_leaves_17 : decode cX12_leaves 17 = .ok (.bipush 33, 2) := by decide +kernel
theorem dX12_leaves_19 : decode cX12_leaves 19 = .ok (.iaload, 1) := by decide +kernel
theorem dX12_leaves_20 : decode cX12_leaves 20 = .ok (.iconst 2, 1) := by decide +kernel
theorem dX12_leaves_21 : decode cX12_leaves 21 = .ok (.if_icmp .ge 7, 3) := by decide +kernel
theorem dX12_leaves_24 : decode cX12_leaves 24 = .ok (.iconst 3, 1) := by decide +kernel
theorem dX12_leaves_25 : decode cX12_leaves 25 = .ok (.goto 4, 3) := by decide +kernel
theorem dX12_leaves_28 : decode cX12_leaves 28 = .ok (.iconst (-1), 1) := by decide +kernel
theorem dX12_leaves_29 : decode cX12_leaves 29 = .ok (.invokevirtual 325, 3) := by decide +kernel
theorem dX12_leaves_32 : decode cX12_leaves 32 = .ok (.ifCond .eq 5, 3) := by decide +kernel
theorem dX12_leaves_35 : decode cX12_leaves 35 = .ok (.iconst (-1), 1) := by decide +kernel
theorem dX12_leaves_36 : decode cX12_leaves 36 = .ok (.ireturn, 1) := by decide +kernel
theorem dX12_leaves_37 : decode cX12_leaves 37 = .ok (.aload_n 0, 1) := by decide +kernel
theorem dX12_leaves_38 : decode cX12_leaves 38 = .ok (.invokevirtual 328, 3) := by decide +kernel
theorem dX12_leaves_41 : decode cX12_leaves 41 = .ok (.aload_n 0, 1) := by decide +kernel
theorem dX12_leaves_42 : decode cX12_leaves 42 = .ok (.getfield 58, 3) := by decide +kernel
theorem dX12_leaves_45 : decode cX12_leaves 45 = .ok (.bipush 33, 2) := by decide +kernel
theorem dX12_leaves_47 : decode cX12_leaves 47 = .ok (.dup2, 1) := by decide +kernel
theorem dX12_leaves_48 : decode cX12_leaves 48 = .ok (.iaload, 1) := by decide +kernel
theorem dX12_leaves_49 : decode cX12_leaves 49 = .ok (.iconst 2, 1) := by decide +kernel
theorem dX12_leaves_50 : decode cX12_leaves 50 = .ok (.isub, 1) := by decide +kernel
theorem dX12_leaves_51 : decode cX12_leaves 51 = .ok (.iastore, 1) := by decide +kernel
theorem dX12_leaves_52 : decode cX12_leaves 52 = .ok (.aload_n 0, 1) := by decide +kernel
theorem dX12_leaves_53 : decode cX12_leaves 53 = .ok (.getfield 58, 3) := by decide +kernel
theorem dX12_leaves_56 : decode cX12_leaves 56 = .ok (.bipush 31, 2) := by decide +kernel
theorem dX12_leaves_58 : decode cX12_leaves 58 = .ok (.dup2, 1) := by decide +kernel
theorem dX12_leaves_59 : decode cX12_leaves 59 = .ok (.iaload, 1) := by decide +kernel
theorem dX12_leaves_60 : decode cX12_leaves 60 = .ok (.iconst 1, 1) := by decide +kernel
theorem dX12_leaves_61 : decode cX12_leaves 61 = .ok (.iload_n 1, 1) := by decide +kernel
theorem dX12_leaves_62 : decode cX12_leaves 62 = .ok (.ishl, 1) := by decide +kernel
theorem dX12_leaves_63 : decode cX12_leaves 63 = .ok (.ixor, 1) := by decide +kernel
theorem dX12_leaves_64 : decode cX12_leaves 64 = .ok (.iastore, 1) := by decide +kernel
theorem dX12_leaves_65 : decode cX12_leaves 65 = .ok (.aload_n 0, 1) := by decide +kernel
theorem dX12_leaves_66 : decode cX12_leaves 66 = .ok (.iload_n 1, 1) := by decide +kernel
theorem dX12_leaves_67 : decode cX12_leaves 67 = .ok (.invokevirtual 280, 3) := by decide +kernel
theorem dX12_leaves_70 : decode cX12_leaves 70 = .ok (.ifCond .eq 7, 3) := by decide +kernel
theorem dX12_leaves_73 : decode cX12_leaves 73 = .ok (.iconst 1, 1) := by decide +kernel
theorem dX12_leaves_74 : decode cX12_leaves 74 = .ok (.goto 4, 3) := by decide +kernel
theorem dX12_leaves_77 : decode cX12_leaves 77 = .ok (.iconst 0, 1) := by decide +kernel
theorem dX12_leaves_78 : decode cX12_leaves 78 = .ok (.ireturn, 1) := by decide +kernel
set_option maxHeartbeats 4000000 in
set_option maxRecDepth 100000 in
theorem ctM_leaves (μ : Mm) (h : MB μ) (ha : 0 ≤ μ.1 0 35) (ha2 : μ.1 0 35 ≤ 40) {v : Int} (hv : InR v) : CtE PM 3 yX12_leaves cX12_leaves 2 (some .int) [vR 0, vI v] μ (fun r m => if leavW μ v = -1 then r = (if hasB (bXor (μ.1 17 31) (bShl 1 v)) v.toNat = true then 1 else 0) ∧ m = mst (mst (kepM μ) 17 33 (μ.1 17 33 - 2)) 17 31 (bXor (μ.1 17 31) (bShl 1 v)) else r = -1 ∧ m = refM μ (leavW μ v)) := by
  refine ct_intro [some (vR 0), some (vI v)] RX12 (by decide) rfl XM rfl (Nat.le_of_ble_eq_true rfl) (fun K hO => ?_)
  have hnp := h.np
  have hr := h.now.rest
  have hwr : -1 ≤ (leavW μ v) ∧ (leavW μ v) ≤ 4 := by unfold leavW; (repeat' split) <;> omega
  have j : AW K 29 [some (vR 0), some (vI v)] [vI (leavW μ v), vR 0] μ := by
    refine aw_callVE (as := [vI (leavW μ v)]) (st := []) hO dX12_leaves_29 rfl (lw_t7 59 rfl rfl) kX12_isRefused (T := TX12) rfl (by decide) rfl (ctM_isRefused μ (v := (leavW μ v)) (by omega) (by omega)) (by decide) rfl rfl rfl (Nat.le_of_ble_eq_true rfl) (fun v1 μ2 hq3 => ?_)
    obtain ⟨e_v1, e_μ2⟩ := hq3
    rw [show (if (leavW μ v) = -1 then (0 : Int) else 1) = (if (leavW μ v) ≠ -1 then 1 else 0) by by_cases q : (leavW μ v) = -1 <;> simp [q]] at e_v1
    refine aw_cg e_v1 ?_
    refine aw_ifz_eq (tgt := 37) hO dX12_leaves_32 rfl rfl (fun c32 => ?_) (fun c32 => ?_)
    · have c32b : leavW μ v = -1 := Classical.byContradiction c32
      rw [if_pos c32b] at e_μ2
      have hM := e_μ2
      have hvp : 0 ≤ v ∧ v < μ.1 0 25 := Classical.byContradiction (fun q => by unfold leavW at c32b; rw [if_pos q] at c32b; omega)
      refine aw_aload_n hO dX12_leaves_37 rfl rfl ?_
      refine aw_callVV (as := []) (st := []) hO dX12_leaves_38 rfl (lw_t7 63 rfl rfl) kX12_keep (T := TX12) rfl (by decide) rfl (ctM_keep μ2 (by rw [hM]; exact ha) (by rw [hM]; exact ha2)) (by decide) rfl rfl rfl (Nat.le_of_ble_eq_true rfl) (fun μ5 hq6 => ?_)
      have ek_μ5 : μ5 = kepM μ2 := hq6
      have hx : ∀ i, μ5.1 17 i = μ.1 17 i := fun i => by rw [ek_μ5, hM]; exact kepM_nk (by decide) (Or.inl (by decide))
      refine aw_aload_n hO dX12_leaves_41 rfl rfl ?_
      refine gM_now hO dX12_leaves_42 rfl ?_
      refine aw_bipush hO dX12_leaves_45 rfl (by decide) (by decide) ?_
      refine aw_dup2 hO dX12_leaves_47 rfl rfl rfl ?_
      refine aw_ialdn (N := 218) (i := 33) hO dX12_leaves_48 rfl (by decide) rfl (by decide) rfl (by decide) ?_
      refine aw_cg (show (μ5.1 17 33) = (μ.1 17 33) by rw [hx]) ?_
      refine aw_iconst hO dX12_leaves_49 rfl ?_
      refine aw_isub hO dX12_leaves_50 rfl ?_
      refine aw_iastn (N := 218) (i := 33) hO dX12_leaves_51 rfl (by decide) rfl (by decide) rfl (by decide) ?_
      refine aw_mm (fun μ7 e_μ7 => ?_)
      refine aw_aload_n hO dX12_leaves_52 rfl rfl ?_
      refine gM_now hO dX12_leaves_53 rfl ?_
      refine aw_bipush hO dX12_leaves_56 rfl (by decide) (by decide) ?_
      refine aw_dup2 hO dX12_leaves_58 rfl rfl rfl ?_
      refine aw_ialdn (N := 218) (i := 31) hO dX12_leaves_59 rfl (by decide) rfl (by decide) rfl (by decide) ?_
      refine aw_cg (show (μ7.1 17 31) = (μ.1 17 31) by rw [e_μ7, mst_ni (by decide), hx]) ?_
      refine aw_iconst hO dX12_leaves_60 rfl ?_
      refine aw_iload_n hO dX12_leaves_61 rfl rfl ?_
      refine aw_ishl hO dX12_leaves_62 rfl ?_
      refine aw_ixor hO dX12_leaves_63 rfl ?_
      refine aw_iastn (N := 218) (i := 31) hO dX12_leaves_64 rfl (by decide) rfl (by decide) rfl (by decide) ?_
      refine aw_mm (fun μ8 e_μ8 => ?_)
      refine aw_aload_n hO dX12_leaves_65 rfl rfl ?_
      refine aw_iload_n hO dX12_leaves_66 rfl rfl ?_
      refine aw_stq (st' := [vI ((v.toNat : Nat) : Int), vR 0]) (by rw [Int.toNat_of_nonneg (by omega)]) ?_
      refine aw_callVI (as := [vI ((v.toNat : Nat) : Int)]) (st := []) hO dX12_leaves_67 rfl (lw_t7 29 rfl rfl) kX12_isAway (T := TX12) rfl (by decide) rfl (ctM_isAway μ8 v.toNat) (by decide) rfl rfl rfl (Nat.le_of_ble_eq_true rfl) ?_
      rw [show μ8.1 17 31 = bXor (μ.1 17 31) (bShl 1 v) by rw [e_μ8, mst_eq]]
      refine aw_ifz_eq (tgt := 77) hO dX12_leaves_70 rfl rfl (fun c70 => ?_) (fun c70 => ?_)
      · refine aw_iconst hO dX12_leaves_77 rfl ?_
        refine aw_iret hO dX12_leaves_78 ?_
        exact ⟨_, rfl, by dsimp only; rw [if_pos c32b]; exact ⟨by rw [if_neg c70], by rw [e_μ8, e_μ7, ek_μ5, hM]⟩⟩
      · refine aw_iconst hO dX12_leaves_73 rfl ?_
        refine aw_goto (tgt := 78) hO dX12_leaves_74 rfl ?_
        refine aw_iret hO dX12_leaves_78 ?_
        exact ⟨_, rfl, by dsimp only; rw [if_pos c32b]; exact ⟨by rw [if_pos c70], by rw [e_μ8, e_μ7, ek_μ5, hM]⟩⟩
    · rw [if_neg c32] at e_μ2
      refine aw_iconst hO dX12_leaves_35 rfl ?_
      refine aw_iret hO dX12_leaves_36 ?_
      exact ⟨_, rfl, by dsimp only; rw [if_neg c32]; exact ⟨rfl, e_μ2⟩⟩
  refine aw_aload_n hO dX12_leaves_0 rfl rfl ?_
  refine aw_aload_n hO dX12_leaves_1 rfl rfl ?_
  refine aw_iload_n hO dX12_leaves_2 rfl rfl ?_
  refine aw_callVI (as := [vI v]) (st := [vR 0]) hO dX12_leaves_3 rfl (lw_t7 21 rfl rfl) kX12_isPerson (T := TX12) rfl (by decide) rfl (ctM_isPerson μ h (v := v) hv) (by decide) rfl rfl rfl (Nat.le_of_ble_eq_true rfl) ?_
  refine aw_ifz_ne (tgt := 13) hO dX12_leaves_6 rfl rfl (fun c6 => ?_) (fun c6 => ?_)
  · refine aw_aload_n hO dX12_leaves_13 rfl rfl ?_
    refine gM_now hO dX12_leaves_14 rfl ?_
    refine aw_bipush hO dX12_leaves_17 rfl (by decide) (by decide) ?_
    refine aw_ialdn (N := 218) (i := 33) hO dX12_leaves_19 rfl (by decide) rfl (by decide) rfl (by decide) ?_
    refine aw_iconst hO dX12_leaves_20 rfl ?_
    refine aw_icmp_ge (tgt := 28) hO dX12_leaves_21 rfl rfl ⟨by omega, by omega⟩ (inRlit _) (fun c21 => ?_) (fun c21 => ?_)
    · refine aw_iconst hO dX12_leaves_28 rfl ?_
      refine aw_cg (show ((-1) : Int) = (leavW μ v) by unfold leavW; rw [if_neg (fun q => q c6), if_neg (Int.not_lt.mpr c21)]) ?_
      exact j
    · refine aw_iconst hO dX12_leaves_24 rfl ?_
      refine aw_goto (tgt := 29) hO dX12_leaves_25 rfl ?_
      refine aw_cg (show (3 : Int) = (leavW μ v) by unfold leavW; rw [if_neg (fun q => q c6), if_pos c21]) ?_
      exact j
  · refine aw_iconst hO dX12_leaves_9 rfl ?_
    refine aw_goto (tgt := 29) hO dX12_leaves_10 rfl ?_
    refine aw_cg (show (0 : Int) = (leavW μ v) by unfold leavW; rw [if_pos c6]) ?_
    exact j
def feigW (μ : Mm) (v u : Int) : Int := if ¬ (0 ≤ v ∧ v < μ.1 0 25) then 0 else if ¬ (0 ≤ u ∧ u ≤ 1) then 1 else if ¬ (hasB (μ.1 17 31) v.toNat = false ∧ μ.1 17 (6 + 2 * v.toNat + u.toNat) < 3) then 2 else if μ.1 17 33 < 1 then 3 else -1

theorem feign_ok {f : Nat → Int} {j : Nat} {c : Int} (h : NowOK f) (h1 : 6 ≤ j) (h2 : j < 18) (h3 : 0 ≤ c) (h4 : c ≤ 999) (h5 : 0 ≤ f j + 1 ∧ f j + 1 ≤ 3) : NowOK (fu (fu f 33 c) j (f j + 1)) := by
  have hr := h.rest
  unfold NowOK
  refine ⟨fun p hp => ?_, fun i hi => ?_, fun p hp => ?_, fun t ht => ?_, ?_⟩
  · rw [fu_ne (by omega), fu_ne (by omega)]; exact h.1 p hp
  · by_cases e : 6 + i = j
    · rw [e, fu_eq]; exact h5
    · rw [fu_ne e, fu_ne (by omega)]; exact h.2.1 i hi
  · rw [fu_ne (by omega), fu_ne (by omega)]; exact h.2.2.1 p hp
  · rw [fu_ne (by omega), fu_ne (by omega)]; exact h.2.2.2.1 t ht
  · rw [fu_ne (by omega), fu_ne (by omega), fu_ne (by omega), fu_ne (by omega), fu_ne (by omega), fu_ne (by omega), fu_ne (by omega), fu_ne (by omega), fu_ne (i := j) (j := 33) (by omega), fu_eq, fu_ne (by omega), fu_ne (by omega), fu_ne (by omega), fu_ne (by omega), fu_ne (by omega), fu_ne (by omega), fu_ne (by omega), fu_ne (by omega)]
    omega
theorem dX12_feigns_0 : decode cX12_feigns 0 = .ok (.aload_n 0, 1) := by decide +kernel
theorem dX12_feigns_1 : decode cX12_feigns 1 = .ok (.aload_n 0, 1) := by decide +kernel
theorem dX12_feigns_2 : decode cX12_feigns 2 = .ok (.iload_n 1, 1) := by decide +kernel
theorem dX12_feigns_3 : decode cX12_feigns 3 = .ok (.invokevirtual 313, 3) := by decide +kernel
theorem dX12_feigns_6 : decode cX12_feigns 6 = .ok (.ifCond .ne 7, 3) := by decide +kernel
theorem dX12_feigns_9 : decode cX12_feigns 9 = .ok (.iconst 0, 1) := by decide +kernel
theorem dX12_feigns_10 : decode cX12_feigns 10 = .ok (.goto 45, 3) := by decide +kernel
theorem dX12_feigns_13 : decode cX12_feigns 13 = .ok (.iload_n 2, 1) := by decide +kernel
theorem dX12_feigns_14 : decode cX12_feigns 14 = .ok (.iconst 0, 1) := by decide +kernel
theorem dX12_feigns_15 : decode cX12_feigns 15 = .ok (.iconst 1, 1) := by decide +kernel
theorem dX12_feigns_16 : decode cX12_feigns 16 = .ok (.invokestatic 205, 3) := by decide +kernel
theorem dX12_feigns_19 : decode cX12_feigns 19 = .ok (.ifCond .ne 7, 3) := by decide +kernel
theorem dX12_feigns_22 : decode cX12_feigns 22 = .ok (.iconst 1, 1) := by decide +kernel
theorem dX12_feigns_23 : decode cX12_feigns 23 = .ok (.goto 32, 3) := by decide +kernel
theorem dX12_feigns_26 : decode cX12_feigns 26 = .ok (.aload_n 0, 1) := by decide +kernel
theorem dX12_feigns_27 : decode cX12_feigns 27 = .ok (.iload_n 1, 1) := by decide +kernel
theorem dX12_feigns_28 : decode cX12_feigns 28 = .ok (.iload_n 2, 1) := by decide +kernel
theorem dX12_feigns_29 : decode cX12_feigns 29 = .ok (.invokevirtual 334, 3) := by decide +kernel
theorem dX12_feigns_32 : decode cX12_feigns 32 = .ok (.ifCond .ne 7, 3) := by decide +kernel
theorem dX12_feigns_35 : decode cX12_feigns 35 = .ok (.iconst 2, 1) := by decide +kernel
theorem dX12_feigns_36 : decode cX12_feigns 36 = .ok (.goto 19, 3) := by decide +kernel
theorem dX12_feigns_39 : decode cX12_feigns 39 = .ok (.aload_n 0, 1) := by decide +kernel
theorem dX12_feigns_40 : decode cX12_feigns 40 = .ok (.getfield 58, 3) := by decide +kernel
theorem dX12_feigns_43 : decode cX12_feigns 43 = .ok (.bipush 33, 2) := by decide +kernel
theorem dX12_feigns_45 : decode cX12_feigns 45 = .ok (.iaload, 1) := by decide +kernel
theorem dX12_feigns_46 : decode cX12_feigns 46 = .ok (.iconst 1, 1) := by decide +kernel
theorem dX12_feigns_47 : decode cX12_feigns 47 = .ok (.if_icmp .ge 7, 3) := by decide +kernel
theorem dX12_feigns_50 : decode cX12_feigns 50 = .ok (.iconst 3, 1) := by decide +kernel
theorem dX12_feigns_51 : decode cX12_feigns 51 = .ok (.goto 4, 3) := by decide +kernel
theorem dX12_feigns_54 : decode cX12_feigns 54 = .ok (.iconst (-1), 1) := by decide +kernel
theorem dX12_feigns_55 : decode cX12_feigns 55 = .ok (.invokevirtual 325, 3) := by decide +kernel
theorem dX12_feigns_58 : decode cX12_feigns 58 = .ok (.ifCond .eq 5, 3) := by decide +kernel
theorem dX12_feigns_61 : decode cX12_feigns 61 = .ok (.iconst (-1), 1) := by decide +kernel
theorem dX12_feigns_62 : decode cX12_feigns 62 = .ok (.ireturn, 1) := by decide +kernel
theorem dX12_feigns_63 : decode cX12_feigns 63 = .ok (.aload_n 0, 1) := by decide +kernel
theorem dX12_feigns_64 : decode cX12_feigns 64 = .ok (.invokevirtual 328, 3) := by decide +kernel
theorem dX12_feigns_67 : decode cX12_feigns 67 = .ok (.aload_n 0, 1) := by decide +kernel
theorem dX12_feigns_68 : decode cX12_feigns 68 = .ok (.getfield 58, 3) := by decide +kernel
theorem dX12_feigns_71 : decode cX12_feigns 71 = .ok (.bipush 33, 2) := by decide +kernel
theorem dX12_feigns_73 : decode cX12_feigns 73 = .ok (.dup2, 1) := by decide +kernel
theorem dX12_feigns_74 : decode cX12_feigns 74 = .ok (.iaload, 1) := by decide +kernel
theorem dX12_feigns_75 : decode cX12_feigns 75 = .ok (.iconst 1, 1) := by decide +kernel
theorem dX12_feigns_76 : decode cX12_feigns 76 = .ok (.isub, 1) := by decide +kernel
theorem dX12_feigns_77 : decode cX12_feigns 77 = .ok (.iastore, 1) := by decide +kernel
theorem dX12_feigns_78 : decode cX12_feigns 78 = .ok (.aload_n 0, 1) := by decide +kernel
theorem dX12_feigns_79 : decode cX12_feigns 79 = .ok (.getfield 58, 3) := by decide +kernel
theorem dX12_feigns_82 : decode cX12_feigns 82 = .ok (.bipush 6, 2) := by decide +kernel
theorem dX12_feigns_84 : decode cX12_feigns 84 = .ok (.iconst 2, 1) := by decide +kernel
theorem dX12_feigns_85 : decode cX12_feigns 85 = .ok (.iload_n 1, 1) := by decide +kernel
theorem dX12_feigns_86 : decode cX12_feigns 86 = .ok (.imul, 1) := by decide +kernel
theorem dX12_feigns_87 : decode cX12_feigns 87 = .ok (.iadd, 1) := by decide +kernel
theorem dX12_feigns_88 : decode cX12_feigns 88 = .ok (.iload_n 2, 1) := by decide +kernel
theorem dX12_feigns_89 : decode cX12_feigns 89 = .ok (.iadd, 1) := by decide +kernel
theorem dX12_feigns_90 : decode cX12_feigns 90 = .ok (.dup2, 1) := by decide +kernel
theorem dX12_feigns_91 : decode cX12_feigns 91 = .ok (.iaload, 1) := by decide +kernel
theorem dX12_feigns_92 : decode cX12_feigns 92 = .ok (.iconst 1, 1) := by decide +kernel
theorem dX12_feigns_93 : decode cX12_feigns 93 = .ok (.iadd, 1) := by decide +kernel
theorem dX12_feigns_94 : decode cX12_feigns 94 = .ok (.iastore, 1) := by decide +kernel
theorem dX12_feigns_95 : decode cX12_feigns 95 = .ok (.aload_n 0, 1) := by decide +kernel
theorem dX12_feigns_96 : decode cX12_feigns 96 = .ok (.iload_n 1, 1) := by decide +kernel
theorem dX12_feigns_97 : decode cX12_feigns 97 = .ok (.iload_n 2, 1) := by decide +kernel
theorem dX12_feigns_98 : decode cX12_feigns 98 = .ok (.invokevirtual 271, 3) := by decide +kernel
theorem dX12_feigns_101 : decode cX12_feigns 101 = .ok (.ireturn, 1) := by decide +kernel
set_option maxHeartbeats 4000000 in
set_option maxRecDepth 100000 in
theorem ctM_feigns (μ : Mm) (h : MB μ) (ha : 0 ≤ μ.1 0 35) (ha2 : μ.1 0 35 ≤ 40) {v u : Int} (hv : InR v) (hu : InR u) : CtE PM 3 yX12_feigns cX12_feigns 3 (some .int) [vR 0, vI v, vI u] μ (fun r m => if feigW μ v u = -1 then r = min 9 (μ.1 15 (4 * v.toNat + u.toNat) + 2 * (μ.1 17 (6 + 2 * v.toNat + u.toNat) + 1)) ∧ m = mst (mst (kepM μ) 17 33 (μ.1 17 33 - 1)) 17 (6 + 2 * v.toNat + u.toNat) (μ.1 17 (6 + 2 * v.toNat + u.toNat) + 1) else r = -1 ∧ m = refM μ (feigW μ v u)) := by
  refine ct_intro [some (vR 0), some (vI v), some (vI u)] RX12 (by decide) rfl XM rfl (Nat.le_of_ble_eq_true rfl) (fun K hO => ?_)
  have hnp := h.np
  have hr := h.now.rest
  have hwr : -1 ≤ (feigW μ v u) ∧ (feigW μ v u) ≤ 4 := by unfold feigW; (repeat' split) <;> omega
  have j : AW K 55 [some (vR 0), some (vI v), some (vI u)] [vI (feigW μ v u), vR 0] μ := by
    refine aw_callVE (as := [vI (feigW μ v u)]) (st := []) hO dX12_feigns_55 rfl (lw_t7 59 rfl rfl) kX12_isRefused (T := TX12) rfl (by decide) rfl (ctM_isRefused μ (v := (feigW μ v u)) (by omega) (by omega)) (by decide) rfl rfl rfl (Nat.le_of_ble_eq_true rfl) (fun v1 μ2 hq3 => ?_)
    obtain ⟨e_v1, e_μ2⟩ := hq3
    rw [show (if (feigW μ v u) = -1 then (0 : Int) else 1) = (if (feigW μ v u) ≠ -1 then 1 else 0) by by_cases q : (feigW μ v u) = -1 <;> simp [q]] at e_v1
    refine aw_cg e_v1 ?_
    refine aw_ifz_eq (tgt := 63) hO dX12_feigns_58 rfl rfl (fun c58 => ?_) (fun c58 => ?_)
    · have c58b : feigW μ v u = -1 := Classical.byContradiction c58
      rw [if_pos c58b] at e_μ2
      have hM := e_μ2
      have hvp : 0 ≤ v ∧ v < μ.1 0 25 := Classical.byContradiction (fun q => by unfold feigW at c58b; rw [if_pos q] at c58b; omega)
      have hup : 0 ≤ u ∧ u ≤ 1 := Classical.byContradiction (fun q => by unfold feigW at c58b; rw [if_neg (fun z => z hvp), if_pos q] at c58b; omega)
      have hcf : hasB (μ.1 17 31) v.toNat = false ∧ μ.1 17 (6 + 2 * v.toNat + u.toNat) < 3 := Classical.byContradiction (fun q => by unfold feigW at c58b; rw [if_neg (fun z => z hvp), if_neg (fun z => z hup), if_pos q] at c58b; omega)
      have hco : ¬ μ.1 17 33 < 1 := fun q => by unfold feigW at c58b; rw [if_neg (fun z => z hvp), if_neg (fun z => z hup), if_neg (fun z => z hcf), if_pos q] at c58b; omega
      have hfe := h.now.fei (j := 6 + 2 * v.toNat + u.toNat) (by omega) (by omega)
      refine aw_aload_n hO dX12_feigns_63 rfl rfl ?_
      refine aw_callVV (as := []) (st := []) hO dX12_feigns_64 rfl (lw_t7 63 rfl rfl) kX12_keep (T := TX12) rfl (by decide) rfl (ctM_keep μ2 (by rw [hM]; exact ha) (by rw [hM]; exact ha2)) (by decide) rfl rfl rfl (Nat.le_of_ble_eq_true rfl) (fun μ5 hq6 => ?_)
      have ek_μ5 : μ5 = kepM μ2 := hq6
      have hx : ∀ i, μ5.1 17 i = μ.1 17 i := fun i => by rw [ek_μ5, hM]; exact kepM_nk (by decide) (Or.inl (by decide))
      refine aw_aload_n hO dX12_feigns_67 rfl rfl ?_
      refine gM_now hO dX12_feigns_68 rfl ?_
      refine aw_bipush hO dX12_feigns_71 rfl (by decide) (by decide) ?_
      refine aw_dup2 hO dX12_feigns_73 rfl rfl rfl ?_
      refine aw_ialdn (N := 218) (i := 33) hO dX12_feigns_74 rfl (by decide) rfl (by decide) rfl (by decide) ?_
      refine aw_cg (show (μ5.1 17 33) = (μ.1 17 33) by rw [hx]) ?_
      refine aw_iconst hO dX12_feigns_75 rfl ?_
      refine aw_isub hO dX12_feigns_76 rfl ?_
      refine aw_iastn (N := 218) (i := 33) hO dX12_feigns_77 rfl (by decide) rfl (by decide) rfl (by decide) ?_
      refine aw_mm (fun μ7 e_μ7 => ?_)
      refine aw_aload_n hO dX12_feigns_78 rfl rfl ?_
      refine gM_now hO dX12_feigns_79 rfl ?_
      refine aw_bipush hO dX12_feigns_82 rfl (by decide) (by decide) ?_
      refine aw_iconst hO dX12_feigns_84 rfl ?_
      refine aw_iload_n hO dX12_feigns_85 rfl rfl ?_
      refine aw_imul hO dX12_feigns_86 rfl ?_
      refine aw_iadd hO dX12_feigns_87 rfl ?_
      refine aw_iload_n hO dX12_feigns_88 rfl rfl ?_
      refine aw_iadd hO dX12_feigns_89 rfl ?_
      refine aw_dup2 hO dX12_feigns_90 rfl rfl rfl ?_
      refine aw_ialdn (N := 218) (i := (6 + 2 * v.toNat + u.toNat)) hO dX12_feigns_91 rfl (by decide) rfl (by decide) (by omega) (by omega) ?_
      refine aw_cg (show (μ7.1 17 (6 + 2 * v.toNat + u.toNat)) = (μ.1 17 (6 + 2 * v.toNat + u.toNat)) by rw [e_μ7, mst_ni (by omega), hx]) ?_
      refine aw_iconst hO dX12_feigns_92 rfl ?_
      refine aw_iadd hO dX12_feigns_93 rfl ?_
      refine aw_iastn (N := 218) (i := (6 + 2 * v.toNat + u.toNat)) hO dX12_feigns_94 rfl (by decide) rfl (by decide) (by omega) (by omega) ?_
      refine aw_mm (fun μ8 e_μ8 => ?_)
      refine aw_aload_n hO dX12_feigns_95 rfl rfl ?_
      refine aw_iload_n hO dX12_feigns_96 rfl rfl ?_
      refine aw_iload_n hO dX12_feigns_97 rfl rfl ?_
      refine aw_stq (st' := [vI ((u.toNat : Nat) : Int), vI ((v.toNat : Nat) : Int), vR 0]) (by rw [Int.toNat_of_nonneg (by omega), Int.toNat_of_nonneg (by omega)]) ?_
      have hF : μ8.1 17 = fu (fu (μ.1 17) 33 (μ.1 17 33 - 1)) (6 + 2 * v.toNat + u.toNat) (μ.1 17 (6 + 2 * v.toNat + u.toNat) + 1) := by rw [e_μ8, e_μ7, mst_row, mrow_at, mst_row, mrow_at, show μ5.1 17 = μ.1 17 from funext hx]
      have hoff : ∀ k i, k ≠ 17 → k ≠ 19 → (k ≠ 0 ∨ i ≠ 35) → μ8.1 k i = μ.1 k i := fun k i a b c => by rw [e_μ8, e_μ7, mst_nk a, mst_nk a, ek_μ5, hM]; exact kepM_nk b c
      have hMBm : MB μ8 := by
        have hNF : NowOK (μ8.1 17) := by rw [hF]; exact feign_ok h.now (by omega) (by omega) (by omega) (by omega) (by have := hcf.2; omega)
        unfold MB; rw [hoff 0 25 (by decide) (by decide) (Or.inr (by decide)), hoff 0 26 (by decide) (by decide) (Or.inr (by decide)), show μ8.1 14 = μ.1 14 from funext fun i => hoff 14 i (by decide) (by decide) (Or.inl (by decide)), show μ8.1 15 = μ.1 15 from funext fun i => hoff 15 i (by decide) (by decide) (Or.inl (by decide)), show μ8.1 16 = μ.1 16 from funext fun i => hoff 16 i (by decide) (by decide) (Or.inl (by decide))]
        exact ⟨h.1, h.2.1, h.2.2.1, h.2.2.2.1, h.2.2.2.2.1, hNF⟩
      refine aw_callVI (as := [vI ((v.toNat : Nat) : Int), vI ((u.toNat : Nat) : Int)]) (st := []) hO dX12_feigns_98 rfl (lw_t7 33 rfl rfl) kX12_seems (T := TX12) rfl (by decide) rfl (ctM_seems μ8 hMBm (p := v.toNat) (k := u.toNat) (by omega) (by omega)) (by decide) rfl rfl rfl (Nat.le_of_ble_eq_true rfl) ?_
      refine aw_iret hO dX12_feigns_101 ?_
      exact ⟨_, rfl, by dsimp only; rw [if_pos c58b]; exact ⟨by unfold seemsM; rw [if_neg (by omega), hoff 15 _ (by decide) (by decide) (Or.inl (by decide)), hF, fu_eq], by rw [e_μ8, e_μ7, ek_μ5, hM]⟩⟩
    · rw [if_neg c58] at e_μ2
      refine aw_iconst hO dX12_feigns_61 rfl ?_
      refine aw_iret hO dX12_feigns_62 ?_
      exact ⟨_, rfl, by dsimp only; rw [if_neg c58]; exact ⟨rfl, e_μ2⟩⟩
  refine aw_aload_n hO dX12_feigns_0 rfl rfl ?_
  refine aw_aload_n hO dX12_feigns_1 rfl rfl ?_
  refine aw_iload_n hO dX12_feigns_2 rfl rfl ?_
  refine aw_callVI (as := [vI v]) (st := [vR 0]) hO dX12_feigns_3 rfl (lw_t7 21 rfl rfl) kX12_isPerson (T := TX12) rfl (by decide) rfl (ctM_isPerson μ h (v := v) hv) (by decide) rfl rfl rfl (Nat.le_of_ble_eq_true rfl) ?_
  refine aw_ifz_ne (tgt := 13) hO dX12_feigns_6 rfl rfl (fun c6 => ?_) (fun c6 => ?_)
  · refine aw_iload_n hO dX12_feigns_13 rfl rfl ?_
    refine aw_iconst hO dX12_feigns_14 rfl ?_
    refine aw_iconst hO dX12_feigns_15 rfl ?_
    refine aw_callSI (as := [vI u, vI 0, vI 1]) (st := [vR 0]) hO dX12_feigns_16 rfl (lw_t6 172 rfl rfl) kX12_in (ctM_in μ ⟨by omega, by omega⟩ (inRlit _) (inRlit _)) (by decide) rfl rfl rfl (Nat.le_of_ble_eq_true rfl) ?_
    refine aw_ifz_ne (tgt := 26) hO dX12_feigns_19 rfl rfl (fun c19 => ?_) (fun c19 => ?_)
    · refine aw_aload_n hO dX12_feigns_26 rfl rfl ?_
      refine aw_iload_n hO dX12_feigns_27 rfl rfl ?_
      refine aw_iload_n hO dX12_feigns_28 rfl rfl ?_
      refine aw_stq (st' := [vI ((u.toNat : Nat) : Int), vI ((v.toNat : Nat) : Int), vR 0, vR 0]) (by rw [Int.toNat_of_nonneg (by omega), Int.toNat_of_nonneg (by omega)]) ?_
      refine aw_callVI (as := [vI ((v.toNat : Nat) : Int), vI ((u.toNat : Nat) : Int)]) (st := [vR 0]) hO dX12_feigns_29 rfl (lw_t7 76 rfl rfl) kX12_canFeign (T := TX12) rfl (by decide) rfl (ctM_canFeign μ h (p := v.toNat) (k := u.toNat) (by omega) (by omega)) (by decide) rfl rfl rfl (Nat.le_of_ble_eq_true rfl) ?_
      refine aw_ifz_ne (tgt := 39) hO dX12_feigns_32 rfl rfl (fun c32 => ?_) (fun c32 => ?_)
      · refine aw_aload_n hO dX12_feigns_39 rfl rfl ?_
        refine gM_now hO dX12_feigns_40 rfl ?_
        refine aw_bipush hO dX12_feigns_43 rfl (by decide) (by decide) ?_
        refine aw_ialdn (N := 218) (i := 33) hO dX12_feigns_45 rfl (by decide) rfl (by decide) rfl (by decide) ?_
        refine aw_iconst hO dX12_feigns_46 rfl ?_
        refine aw_icmp_ge (tgt := 54) hO dX12_feigns_47 rfl rfl ⟨by omega, by omega⟩ (inRlit _) (fun c47 => ?_) (fun c47 => ?_)
        · refine aw_iconst hO dX12_feigns_54 rfl ?_
          refine aw_cg (show ((-1) : Int) = (feigW μ v u) by unfold feigW; rw [if_neg (fun q => q c6), if_neg (fun q => q c19), if_neg (fun q => q c32), if_neg (Int.not_lt.mpr c47)]) ?_
          exact j
        · refine aw_iconst hO dX12_feigns_50 rfl ?_
          refine aw_goto (tgt := 55) hO dX12_feigns_51 rfl ?_
          refine aw_cg (show (3 : Int) = (feigW μ v u) by unfold feigW; rw [if_neg (fun q => q c6), if_neg (fun q => q c19), if_neg (fun q => q c32), if_pos c47]) ?_
          exact j
      · refine aw_iconst hO dX12_feigns_35 rfl ?_
        refine aw_goto (tgt := 55) hO dX12_feigns_36 rfl ?_
        refine aw_cg (show (2 : Int) = (feigW μ v u) by unfold feigW; rw [if_neg (fun q => q c6), if_neg (fun q => q c19), if_pos c32]) ?_
        exact j
    · refine aw_iconst hO dX12_feigns_22 rfl ?_
      refine aw_goto (tgt := 55) hO dX12_feigns_23 rfl ?_
      refine aw_cg (show (1 : Int) = (feigW μ v u) by unfold feigW; rw [if_neg (fun q => q c6), if_pos c19]) ?_
      exact j
  · refine aw_iconst hO dX12_feigns_9 rfl ?_
    refine aw_goto (tgt := 55) hO dX12_feigns_10 rfl ?_
    refine aw_cg (show (0 : Int) = (feigW μ v u) by unfold feigW; rw [if_pos c6]) ?_
    exact j
def walkW (μ : Mm) (v : Int) : Int := if μ.1 0 25 = 0 then 0 else if ¬ (0 ≤ v ∧ v ≤ 20) then 1 else if v = μ.1 17 29 then 2 else if 40 < μ.1 17 30 + (if 0 ≤ v - μ.1 17 29 then v - μ.1 17 29 else -(v - μ.1 17 29)) then 3 else -1

theorem okW_kep {μ : Mm} {v : Int} : okW (kepM μ) v = okW μ v := by
  unfold okW
  rw [kepM_fn (k := 17) (by decide) (by decide), kepM_fn (k := 15) (by decide) (by decide)]
theorem dX12_walks_0 : decode cX12_walks 0 = .ok (.aload_n 0, 1) := by decide +kernel
theorem dX12_walks_1 : decode cX12_walks 1 = .ok (.aload_n 0, 1) := by decide +kernel
theorem dX12_walks_2 : decode cX12_walks 2 = .ok (.getfield 242, 3) := by decide +kernel
theorem dX12_walks_5 : decode cX12_walks 5 = .ok (.ifCond .ne 7, 3) := by decide +kernel
theorem dX12_walks_8 : decode cX12_walks 8 = .ok (.iconst 0, 1) := by decide +kernel
theorem dX12_walks_9 : decode cX12_walks 9 = .ok (.goto 45, 3) := by decide +kernel
theorem dX12_walks_12 : decode cX12_walks 12 = .ok (.iload_n 1, 1) := by decide +kernel
theorem dX12_walks_13 : decode cX12_walks 13 = .ok (.iconst 0, 1) := by decide +kernel
theorem dX12_walks_14 : decode cX12_walks 14 = .ok (.bipush 20, 2) := by decide +kernel
theorem dX12_walks_16 : decode cX12_walks 16 = .ok (.invokestatic 205, 3) := by decide +kernel
theorem dX12_walks_19 : decode cX12_walks 19 = .ok (.ifCond .ne 7, 3) := by decide +kernel
theorem dX12_walks_22 : decode cX12_walks 22 = .ok (.iconst 1, 1) := by decide +kernel
theorem dX12_walks_23 : decode cX12_walks 23 = .ok (.goto 31, 3) := by decide +kernel
theorem dX12_walks_26 : decode cX12_walks 26 = .ok (.iload_n 1, 1) := by decide +kernel
theorem dX12_walks_27 : decode cX12_walks 27 = .ok (.aload_n 0, 1) := by decide +kernel
theorem dX12_walks_28 : decode cX12_walks 28 = .ok (.getfield 58, 3) := by decide +kernel
theorem dX12_walks_31 : decode cX12_walks 31 = .ok (.bipush 29, 2) := by decide +kernel
theorem dX12_walks_33 : decode cX12_walks 33 = .ok (.iaload, 1) := by decide +kernel
theorem dX12_walks_34 : decode cX12_walks 34 = .ok (.if_icmp .ne 7, 3) := by decide +kernel
theorem dX12_walks_37 : decode cX12_walks 37 = .ok (.iconst 2, 1) := by decide +kernel
theorem dX12_walks_38 : decode cX12_walks 38 = .ok (.goto 16, 3) := by decide +kernel
theorem dX12_walks_41 : decode cX12_walks 41 = .ok (.aload_n 0, 1) := by decide +kernel
theorem dX12_walks_42 : decode cX12_walks 42 = .ok (.iload_n 1, 1) := by decide +kernel
theorem dX12_walks_43 : decode cX12_walks 43 = .ok (.invokevirtual 322, 3) := by decide +kernel
theorem dX12_walks_46 : decode cX12_walks 46 = .ok (.ifCond .eq 7, 3) := by decide +kernel
theorem dX12_walks_49 : decode cX12_walks 49 = .ok (.iconst 3, 1) := by decide +kernel
theorem dX12_walks_50 : decode cX12_walks 50 = .ok (.goto 4, 3) := by decide +kernel
theorem dX12_walks_53 : decode cX12_walks 53 = .ok (.iconst (-1), 1) := by decide +kernel
theorem dX12_walks_54 : decode cX12_walks 54 = .ok (.invokevirtual 325, 3) := by decide +kernel
theorem dX12_walks_57 : decode cX12_walks 57 = .ok (.ifCond .eq 5, 3) := by decide +kernel
theorem dX12_walks_60 : decode cX12_walks 60 = .ok (.iconst (-1), 1) := by decide +kernel
theorem dX12_walks_61 : decode cX12_walks 61 = .ok (.ireturn, 1) := by decide +kernel
theorem dX12_walks_62 : decode cX12_walks 62 = .ok (.aload_n 0, 1) := by decide +kernel
theorem dX12_walks_63 : decode cX12_walks 63 = .ok (.invokevirtual 328, 3) := by decide +kernel
theorem dX12_walks_66 : decode cX12_walks 66 = .ok (.aload_n 0, 1) := by decide +kernel
theorem dX12_walks_67 : decode cX12_walks 67 = .ok (.iload_n 1, 1) := by decide +kernel
theorem dX12_walks_68 : decode cX12_walks 68 = .ok (.invokevirtual 331, 3) := by decide +kernel
theorem dX12_walks_71 : decode cX12_walks 71 = .ok (.ireturn, 1) := by decide +kernel
set_option maxHeartbeats 4000000 in
set_option maxRecDepth 100000 in
theorem ctM_walks (μ : Mm) (h : MB μ) (ha : 0 ≤ μ.1 0 35) (ha2 : μ.1 0 35 ≤ 40) {v : Int} (hv : InR v) : CtE PM 3 yX12_walks cX12_walks 2 (some .int) [vR 0, vI v] μ (fun r m => if walkW μ v = -1 then r = ((cntB (okW μ v) (μ.1 0 25).toNat : Nat) : Int) ∧ m = mrow (kepM μ) 17 (walkF (μ.1 17) v (okW μ v) (μ.1 0 25).toNat) else r = -1 ∧ m = refM μ (walkW μ v)) := by
  refine ct_intro [some (vR 0), some (vI v)] RX12 (by decide) rfl XM rfl (Nat.le_of_ble_eq_true rfl) (fun K hO => ?_)
  have hnp := h.np
  have hr := h.now.rest
  have hwr : -1 ≤ (walkW μ v) ∧ (walkW μ v) ≤ 4 := by unfold walkW; (repeat' split) <;> omega
  have j : AW K 54 [some (vR 0), some (vI v)] [vI (walkW μ v), vR 0] μ := by
    refine aw_callVE (as := [vI (walkW μ v)]) (st := []) hO dX12_walks_54 rfl (lw_t7 59 rfl rfl) kX12_isRefused (T := TX12) rfl (by decide) rfl (ctM_isRefused μ (v := (walkW μ v)) (by omega) (by omega)) (by decide) rfl rfl rfl (Nat.le_of_ble_eq_true rfl) (fun v1 μ2 hq3 => ?_)
    obtain ⟨e_v1, e_μ2⟩ := hq3
    rw [show (if (walkW μ v) = -1 then (0 : Int) else 1) = (if (walkW μ v) ≠ -1 then 1 else 0) by by_cases q : (walkW μ v) = -1 <;> simp [q]] at e_v1
    refine aw_cg e_v1 ?_
    refine aw_ifz_eq (tgt := 62) hO dX12_walks_57 rfl rfl (fun c57 => ?_) (fun c57 => ?_)
    · have c57b : walkW μ v = -1 := Classical.byContradiction c57
      rw [if_pos c57b] at e_μ2
      have hM := e_μ2
      have hpz : ¬ μ.1 0 25 = 0 := fun q => by unfold walkW at c57b; rw [if_pos q] at c57b; omega
      have hvp : 0 ≤ v ∧ v ≤ 20 := Classical.byContradiction (fun q => by unfold walkW at c57b; rw [if_neg hpz, if_pos q] at c57b; omega)
      refine aw_aload_n hO dX12_walks_62 rfl rfl ?_
      refine aw_callVV (as := []) (st := []) hO dX12_walks_63 rfl (lw_t7 63 rfl rfl) kX12_keep (T := TX12) rfl (by decide) rfl (ctM_keep μ2 (by rw [hM]; exact ha) (by rw [hM]; exact ha2)) (by decide) rfl rfl rfl (Nat.le_of_ble_eq_true rfl) (fun μ5 hq6 => ?_)
      have ek_μ5 : μ5 = kepM μ2 := hq6
      have hkM : μ5 = kepM μ := by rw [ek_μ5, hM]
      refine aw_aload_n hO dX12_walks_66 rfl rfl ?_
      refine aw_iload_n hO dX12_walks_67 rfl rfl ?_
      refine aw_callVE (as := [vI v]) (st := []) hO dX12_walks_68 rfl (lw_t7 67 rfl rfl) kX12_walkNow (T := TX12) rfl (by decide) rfl (ctM_walkNow μ5 (by rw [hkM]; exact kepM_MB h) (v := v) (by omega) (by omega)) (by decide) rfl rfl rfl (Nat.le_of_ble_eq_true rfl) (fun v7 μ8 hq9 => ?_)
      obtain ⟨e_v7, e_μ8⟩ := hq9
      refine aw_iret hO dX12_walks_71 ?_
      exact ⟨_, rfl, by dsimp only; rw [if_pos c57b]; exact ⟨by rw [e_v7, hkM, okW_kep, kepM_nk (by decide) (Or.inr (by decide))], by rw [e_μ8, hkM, okW_kep, kepM_fn (by decide) (by decide), kepM_nk (by decide) (Or.inr (by decide))]⟩⟩
    · rw [if_neg c57] at e_μ2
      refine aw_iconst hO dX12_walks_60 rfl ?_
      refine aw_iret hO dX12_walks_61 ?_
      exact ⟨_, rfl, by dsimp only; rw [if_neg c57]; exact ⟨rfl, e_μ2⟩⟩
  refine aw_aload_n hO dX12_walks_0 rfl rfl ?_
  refine aw_aload_n hO dX12_walks_1 rfl rfl ?_
  refine gM_persons hO dX12_walks_2 rfl ?_
  refine aw_if_ne (tgt := 12) hO dX12_walks_5 rfl rfl ⟨by omega, by omega⟩ (fun c5 => ?_) (fun c5 => ?_)
  · refine aw_iload_n hO dX12_walks_12 rfl rfl ?_
    refine aw_iconst hO dX12_walks_13 rfl ?_
    refine aw_bipush hO dX12_walks_14 rfl (by decide) (by decide) ?_
    refine aw_callSI (as := [vI v, vI 0, vI 20]) (st := [vR 0]) hO dX12_walks_16 rfl (lw_t6 172 rfl rfl) kX12_in (ctM_in μ ⟨by omega, by omega⟩ (inRlit _) (inRlit _)) (by decide) rfl rfl rfl (Nat.le_of_ble_eq_true rfl) ?_
    refine aw_ifz_ne (tgt := 26) hO dX12_walks_19 rfl rfl (fun c19 => ?_) (fun c19 => ?_)
    · refine aw_iload_n hO dX12_walks_26 rfl rfl ?_
      refine aw_aload_n hO dX12_walks_27 rfl rfl ?_
      refine gM_now hO dX12_walks_28 rfl ?_
      refine aw_bipush hO dX12_walks_31 rfl (by decide) (by decide) ?_
      refine aw_ialdn (N := 218) (i := 29) hO dX12_walks_33 rfl (by decide) rfl (by decide) rfl (by decide) ?_
      refine aw_icmp_ne (tgt := 41) hO dX12_walks_34 rfl rfl ⟨by omega, by omega⟩ ⟨by omega, by omega⟩ (fun c34 => ?_) (fun c34 => ?_)
      · refine aw_aload_n hO dX12_walks_41 rfl rfl ?_
        refine aw_iload_n hO dX12_walks_42 rfl rfl ?_
        refine aw_callVI (as := [vI v]) (st := [vR 0]) hO dX12_walks_43 rfl (lw_t7 50 rfl rfl) kX12_isTooFar (T := TX12) rfl (by decide) rfl (ctM_isTooFar μ h (v := v) (by omega) (by omega)) (by decide) rfl rfl rfl (Nat.le_of_ble_eq_true rfl) ?_
        refine aw_ifz_eq (tgt := 53) hO dX12_walks_46 rfl rfl (fun c46 => ?_) (fun c46 => ?_)
        · refine aw_iconst hO dX12_walks_53 rfl ?_
          refine aw_cg (show ((-1) : Int) = (walkW μ v) by unfold walkW; rw [if_neg c5, if_neg (fun q => q c19), if_neg c34, if_neg c46]) ?_
          exact j
        · refine aw_iconst hO dX12_walks_49 rfl ?_
          refine aw_goto (tgt := 54) hO dX12_walks_50 rfl ?_
          refine aw_cg (show (3 : Int) = (walkW μ v) by unfold walkW; rw [if_neg c5, if_neg (fun q => q c19), if_neg c34, if_pos c46]) ?_
          exact j
      · refine aw_iconst hO dX12_walks_37 rfl ?_
        refine aw_goto (tgt := 54) hO dX12_walks_38 rfl ?_
        refine aw_cg (show (2 : Int) = (walkW μ v) by unfold walkW; rw [if_neg c5, if_neg (fun q => q c19), if_pos c34]) ?_
        exact j
    · refine aw_iconst hO dX12_walks_22 rfl ?_
      refine aw_goto (tgt := 54) hO dX12_walks_23 rfl ?_
      refine aw_cg (show (1 : Int) = (walkW μ v) by unfold walkW; rw [if_neg c5, if_pos c19]) ?_
      exact j
  · refine aw_iconst hO dX12_walks_8 rfl ?_
    refine aw_goto (tgt := 54) hO dX12_walks_9 rfl ?_
    refine aw_cg (show (0 : Int) = (walkW μ v) by unfold walkW; rw [if_pos c5]) ?_
    exact j
