theorem dX12_here_0 : decode cX12_here 0 = .ok (.aload_n 0, 1) := by decide +kernel
theorem dX12_here_1 : decode cX12_here 1 = .ok (.getfield 100, 3) := by decide +kernel
theorem dX12_here_4 : decode cX12_here 4 = .ok (.aload_n 0, 1) := by decide +kernel
theorem dX12_here_5 : decode cX12_here 5 = .ok (.getfield 97, 3) := by decide +kernel
theorem dX12_here_8 : decode cX12_here 8 = .ok (.if_icmp .ge 15, 3) := by decide +kernel
theorem dX12_here_11 : decode cX12_here 11 = .ok (.aload_n 0, 1) := by decide +kernel
theorem dX12_here_12 : decode cX12_here 12 = .ok (.getfield 9, 3) := by decide +kernel
theorem dX12_here_15 : decode cX12_here 15 = .ok (.aload_n 0, 1) := by decide +kernel
theorem dX12_here_16 : decode cX12_here 16 = .ok (.getfield 100, 3) := by decide +kernel
theorem dX12_here_19 : decode cX12_here 19 = .ok (.iaload, 1) := by decide +kernel
theorem dX12_here_20 : decode cX12_here 20 = .ok (.goto 4, 3) := by decide +kernel
theorem dX12_here_23 : decode cX12_here 23 = .ok (.iconst (-1), 1) := by decide +kernel
theorem dX12_here_24 : decode cX12_here 24 = .ok (.ireturn, 1) := by decide +kernel
set_option maxHeartbeats 4000000 in
set_option maxRecDepth 100000 in
theorem ctM_here (μ : Mm) {g : Nat → Int} {N τ : Nat} {a : Nat} (h : PT g N τ μ) (ha : μ.1 0 3 = (a : Int)) (haN : a ≤ N) : CtI PM 0 yX12_here cX12_here 1 (some .int) [vR 0] μ (g a) := by
  refine ct_intro [some (vR 0)] RX12 (by decide) rfl XM rfl (Nat.le_of_ble_eq_true rfl) (fun K hO => ?_)
  have hN := h.1.1
  refine aw_aload_n hO dX12_here_0 rfl rfl ?_
  refine gM_at hO dX12_here_1 rfl ?_
  refine aw_cg ha ?_
  refine aw_aload_n hO dX12_here_4 rfl rfl ?_
  refine gM_size hO dX12_here_5 rfl ?_
  refine aw_cg h.2.2.1 ?_
  refine aw_icmp_ge (tgt := 23) hO dX12_here_8 rfl rfl (inRn (by omega)) (inRn (by omega)) (fun c8 => ?_) (fun c8 => ?_)
  · refine aw_iconst hO dX12_here_23 rfl ?_
    refine aw_iret hO dX12_here_24 ?_
    exact rI (by rw [← h.2.1]; unfold gM; rw [if_neg (by rw [h.2.2.1]; omega)])
  · refine aw_aload_n hO dX12_here_11 rfl rfl ?_
    refine gM_tape hO dX12_here_12 rfl ?_
    refine aw_aload_n hO dX12_here_15 rfl rfl ?_
    refine gM_at hO dX12_here_16 rfl ?_
    refine aw_cg ha ?_
    refine aw_ialdn (N := 240) (i := a) hO dX12_here_19 rfl (by decide) rfl (by decide) rfl (by omega) ?_
    refine aw_goto (tgt := 24) hO dX12_here_20 rfl ?_
    refine aw_iret hO dX12_here_24 ?_
    exact rI (by rw [← h.2.1]; unfold gM; rw [if_pos (by rw [h.2.2.1]; omega)])
theorem dX12_look_0 : decode cX12_look 0 = .ok (.aload_n 0, 1) := by decide +kernel
theorem dX12_look_1 : decode cX12_look 1 = .ok (.invokevirtual 103, 3) := by decide +kernel
theorem dX12_look_4 : decode cX12_look 4 = .ok (.bipush 32, 2) := by decide +kernel
theorem dX12_look_6 : decode cX12_look 6 = .ok (.if_icmp .ne 16, 3) := by decide +kernel
theorem dX12_look_9 : decode cX12_look 9 = .ok (.aload_n 0, 1) := by decide +kernel
theorem dX12_look_10 : decode cX12_look 10 = .ok (.dup, 1) := by decide +kernel
theorem dX12_look_11 : decode cX12_look 11 = .ok (.getfield 100, 3) := by decide +kernel
theorem dX12_look_14 : decode cX12_look 14 = .ok (.iconst 1, 1) := by decide +kernel
theorem dX12_look_15 : decode cX12_look 15 = .ok (.iadd, 1) := by decide +kernel
theorem dX12_look_16 : decode cX12_look 16 = .ok (.putfield 100, 3) := by decide +kernel
theorem dX12_look_19 : decode cX12_look 19 = .ok (.goto (-19), 3) := by decide +kernel
theorem dX12_look_22 : decode cX12_look 22 = .ok (.aload_n 0, 1) := by decide +kernel
theorem dX12_look_23 : decode cX12_look 23 = .ok (.invokevirtual 103, 3) := by decide +kernel
theorem dX12_look_26 : decode cX12_look 26 = .ok (.ireturn, 1) := by decide +kernel
set_option maxHeartbeats 4000000 in
set_option maxRecDepth 100000 in
theorem ctM_look (μ : Mm) {g : Nat → Int} {N τ : Nat} {a : Nat} (h : PT g N τ μ) (ha : μ.1 0 3 = (a : Int)) (haN : a ≤ N) : CtE PM 1 yX12_look cX12_look 1 (some .int) [vR 0] μ (fun r m => r = g (sk g a) ∧ m = mst μ 0 3 (sk g a : Int)) := by
  refine ct_intro [some (vR 0)] RX12 (by decide) rfl XM rfl (Nat.le_of_ble_eq_true rfl) (fun K hO => ?_)
  have hG := h.1
  have lp : ∀ (c0 : Nat) (b : Nat) (m : Mm), (b + c0 = N) → (sk g b = sk g a) → (m = mst μ 0 3 (b : Int)) → (PT g N τ m) → (m.1 0 3 = (b : Int)) → AW K 0 [some (vR 0)] [] m := by
    intro c0
    induction c0 with
    | zero =>
      intro b m hb hsk e hm ha
      have hr := hG.rng b
      have hz := hG.2.2 b (by omega)
      refine aw_aload_n hO dX12_look_0 rfl rfl ?_
      refine aw_callVI (as := []) (st := []) hO dX12_look_1 rfl (lw_t6 144 rfl rfl) kX12_here (T := TX12) rfl (by decide) rfl (ctM_here m hm ha (by omega)) (by decide) rfl rfl rfl (Nat.le_of_ble_eq_true rfl) ?_
      refine aw_bipush hO dX12_look_4 rfl (by decide) (by decide) ?_
      refine aw_icmp_ne (tgt := 22) hO dX12_look_6 rfl rfl ⟨by omega, by omega⟩ (inRlit _) (fun c6 => ?_) (fun c6 => ?_)
      · refine aw_aload_n hO dX12_look_22 rfl rfl ?_
        refine aw_callVI (as := []) (st := []) hO dX12_look_23 rfl (lw_t6 144 rfl rfl) kX12_here (T := TX12) rfl (by decide) rfl (ctM_here m hm ha (by omega)) (by decide) rfl rfl rfl (Nat.le_of_ble_eq_true rfl) ?_
        refine aw_iret hO dX12_look_26 ?_
        exact ⟨_, rfl, by rw [← hsk, sk_f hG c6], by rw [e, ← hsk, sk_f hG c6]⟩
      · exact absurd c6 (by omega)
    | succ c0 ih =>
      intro b m hb hsk e hm ha
      have hr := hG.rng b
      refine aw_aload_n hO dX12_look_0 rfl rfl ?_
      refine aw_callVI (as := []) (st := []) hO dX12_look_1 rfl (lw_t6 144 rfl rfl) kX12_here (T := TX12) rfl (by decide) rfl (ctM_here m hm ha (by omega)) (by decide) rfl rfl rfl (Nat.le_of_ble_eq_true rfl) ?_
      refine aw_bipush hO dX12_look_4 rfl (by decide) (by decide) ?_
      refine aw_icmp_ne (tgt := 22) hO dX12_look_6 rfl rfl ⟨by omega, by omega⟩ (inRlit _) (fun c6 => ?_) (fun c6 => ?_)
      · refine aw_aload_n hO dX12_look_22 rfl rfl ?_
        refine aw_callVI (as := []) (st := []) hO dX12_look_23 rfl (lw_t6 144 rfl rfl) kX12_here (T := TX12) rfl (by decide) rfl (ctM_here m hm ha (by omega)) (by decide) rfl rfl rfl (Nat.le_of_ble_eq_true rfl) ?_
        refine aw_iret hO dX12_look_26 ?_
        exact ⟨_, rfl, by rw [← hsk, sk_f hG c6], by rw [e, ← hsk, sk_f hG c6]⟩
      · have hlt := hG.lt (p := b) (by omega)
        refine aw_aload_n hO dX12_look_9 rfl rfl ?_
        refine aw_dup hO dX12_look_10 rfl rfl ?_
        refine gM_at hO dX12_look_11 rfl ?_
        refine aw_cg ha ?_
        refine aw_iconst hO dX12_look_14 rfl ?_
        refine aw_iadd hO dX12_look_15 rfl ?_
        refine pM_at hO dX12_look_16 rfl ?_
        refine aw_mm (fun μ1 e_μ1 => ?_)
        refine aw_goto (tgt := 0) hO dX12_look_19 rfl ?_
        exact ih (b + 1) μ1 (by omega) (by rw [← hsk, sk_t hG c6]) (by rw [e_μ1, e, mst_mst]; rfl) (by rw [e_μ1, e, mst_mst]; exact h.st sS_at _) (by rw [e_μ1, mst_eq]; rfl)
  exact lp (N - a) a μ (by omega) rfl (mst_self ha).symm h ha
theorem dX12_bad_0 : decode cX12_bad 0 = .ok (.aload_n 0, 1) := by decide +kernel
theorem dX12_bad_1 : decode cX12_bad 1 = .ok (.aload_n 0, 1) := by decide +kernel
theorem dX12_bad_2 : decode cX12_bad 2 = .ok (.getfield 107, 3) := by decide +kernel
theorem dX12_bad_5 : decode cX12_bad 5 = .ok (.iconst (-1), 1) := by decide +kernel
theorem dX12_bad_6 : decode cX12_bad 6 = .ok (.if_icmp .ne 10, 3) := by decide +kernel
theorem dX12_bad_9 : decode cX12_bad 9 = .ok (.aload_n 0, 1) := by decide +kernel
theorem dX12_bad_10 : decode cX12_bad 10 = .ok (.getfield 100, 3) := by decide +kernel
theorem dX12_bad_13 : decode cX12_bad 13 = .ok (.goto 7, 3) := by decide +kernel
theorem dX12_bad_16 : decode cX12_bad 16 = .ok (.aload_n 0, 1) := by decide +kernel
theorem dX12_bad_17 : decode cX12_bad 17 = .ok (.getfield 107, 3) := by decide +kernel
theorem dX12_bad_20 : decode cX12_bad 20 = .ok (.putfield 107, 3) := by decide +kernel
theorem dX12_bad_23 : decode cX12_bad 23 = .ok (.return_, 1) := by decide +kernel
set_option maxHeartbeats 4000000 in
set_option maxRecDepth 100000 in
theorem ctM_bad (μ : Mm) {a : Nat} (ha : μ.1 0 3 = (a : Int)) (hw : μ.1 0 4 = -1) : CtV PM 0 yX12_bad cX12_bad 1 none [vR 0] μ (fun m => m = mst μ 0 4 (a : Int)) := by
  refine ct_intro [some (vR 0)] RX12 (by decide) rfl XM rfl (Nat.le_of_ble_eq_true rfl) (fun K hO => ?_)
  refine aw_aload_n hO dX12_bad_0 rfl rfl ?_
  refine aw_aload_n hO dX12_bad_1 rfl rfl ?_
  refine gM_wrong hO dX12_bad_2 rfl ?_
  refine aw_cg hw ?_
  refine aw_iconst hO dX12_bad_5 rfl ?_
  refine aw_icmp_ne (tgt := 16) hO dX12_bad_6 rfl rfl (inRlit _) (inRlit _) (fun c6 => ?_) (fun c6 => ?_)
  · exact absurd c6 (by omega)
  · refine aw_aload_n hO dX12_bad_9 rfl rfl ?_
    refine gM_at hO dX12_bad_10 rfl ?_
    refine aw_cg ha ?_
    refine aw_goto (tgt := 20) hO dX12_bad_13 rfl ?_
    refine pM_wrong hO dX12_bad_20 rfl ?_
    refine aw_mm (fun μ1 e_μ1 => ?_)
    refine aw_vret hO dX12_bad_23 ?_
    exact ⟨rfl, e_μ1⟩
theorem dX12_put_0 : decode cX12_put 0 = .ok (.aload_n 0, 1) := by decide +kernel
theorem dX12_put_1 : decode cX12_put 1 = .ok (.getfield 13, 3) := by decide +kernel
theorem dX12_put_4 : decode cX12_put 4 = .ok (.sipush 520, 3) := by decide +kernel
theorem dX12_put_7 : decode cX12_put 7 = .ok (.aload_n 0, 1) := by decide +kernel
theorem dX12_put_8 : decode cX12_put 8 = .ok (.getfield 110, 3) := by decide +kernel
theorem dX12_put_11 : decode cX12_put 11 = .ok (.imul, 1) := by decide +kernel
theorem dX12_put_12 : decode cX12_put 12 = .ok (.aload_n 0, 1) := by decide +kernel
theorem dX12_put_13 : decode cX12_put 13 = .ok (.getfield 19, 3) := by decide +kernel
theorem dX12_put_16 : decode cX12_put 16 = .ok (.aload_n 0, 1) := by decide +kernel
theorem dX12_put_17 : decode cX12_put 17 = .ok (.getfield 110, 3) := by decide +kernel
theorem dX12_put_20 : decode cX12_put 20 = .ok (.iaload, 1) := by decide +kernel
theorem dX12_put_21 : decode cX12_put 21 = .ok (.iadd, 1) := by decide +kernel
theorem dX12_put_22 : decode cX12_put 22 = .ok (.iload_n 1, 1) := by decide +kernel
theorem dX12_put_23 : decode cX12_put 23 = .ok (.iastore, 1) := by decide +kernel
theorem dX12_put_24 : decode cX12_put 24 = .ok (.aload_n 0, 1) := by decide +kernel
theorem dX12_put_25 : decode cX12_put 25 = .ok (.getfield 16, 3) := by decide +kernel
theorem dX12_put_28 : decode cX12_put 28 = .ok (.sipush 520, 3) := by decide +kernel
theorem dX12_put_31 : decode cX12_put 31 = .ok (.aload_n 0, 1) := by decide +kernel
theorem dX12_put_32 : decode cX12_put 32 = .ok (.getfield 110, 3) := by decide +kernel
theorem dX12_put_35 : decode cX12_put 35 = .ok (.imul, 1) := by decide +kernel
theorem dX12_put_36 : decode cX12_put 36 = .ok (.aload_n 0, 1) := by decide +kernel
theorem dX12_put_37 : decode cX12_put 37 = .ok (.getfield 19, 3) := by decide +kernel
theorem dX12_put_40 : decode cX12_put 40 = .ok (.aload_n 0, 1) := by decide +kernel
theorem dX12_put_41 : decode cX12_put 41 = .ok (.getfield 110, 3) := by decide +kernel
theorem dX12_put_44 : decode cX12_put 44 = .ok (.iaload, 1) := by decide +kernel
theorem dX12_put_45 : decode cX12_put 45 = .ok (.iadd, 1) := by decide +kernel
theorem dX12_put_46 : decode cX12_put 46 = .ok (.iload_n 2, 1) := by decide +kernel
theorem dX12_put_47 : decode cX12_put 47 = .ok (.iastore, 1) := by decide +kernel
theorem dX12_put_48 : decode cX12_put 48 = .ok (.aload_n 0, 1) := by decide +kernel
theorem dX12_put_49 : decode cX12_put 49 = .ok (.getfield 19, 3) := by decide +kernel
theorem dX12_put_52 : decode cX12_put 52 = .ok (.aload_n 0, 1) := by decide +kernel
theorem dX12_put_53 : decode cX12_put 53 = .ok (.getfield 110, 3) := by decide +kernel
theorem dX12_put_56 : decode cX12_put 56 = .ok (.dup2, 1) := by decide +kernel
theorem dX12_put_57 : decode cX12_put 57 = .ok (.iaload, 1) := by decide +kernel
theorem dX12_put_58 : decode cX12_put 58 = .ok (.iconst 1, 1) := by decide +kernel
theorem dX12_put_59 : decode cX12_put 59 = .ok (.iadd, 1) := by decide +kernel
theorem dX12_put_60 : decode cX12_put 60 = .ok (.iastore, 1) := by decide +kernel
theorem dX12_put_61 : decode cX12_put 61 = .ok (.return_, 1) := by decide +kernel
set_option maxHeartbeats 4000000 in
set_option maxRecDepth 100000 in
theorem ctM_put (μ : Mm) {τ k : Nat} (ht : μ.1 0 14 = (τ : Int)) (ht4 : τ ≤ 4) (hk : μ.1 4 τ = (k : Int)) (hk2 : k < 520) (c v : Int) : CtV PM 0 yX12_put cX12_put 3 none [vR 0, vI c, vI v] μ (fun m => m = putM μ τ k c v) := by
  refine ct_intro [some (vR 0), some (vI c), some (vI v)] RX12 (by decide) rfl XM rfl (Nat.le_of_ble_eq_true rfl) (fun K hO => ?_)
  refine aw_aload_n hO dX12_put_0 rfl rfl ?_
  refine gM_code hO dX12_put_1 rfl ?_
  refine aw_sipush hO dX12_put_4 rfl (by decide) (by decide) ?_
  refine aw_aload_n hO dX12_put_7 rfl rfl ?_
  refine gM_text hO dX12_put_8 rfl ?_
  refine aw_cg ht ?_
  refine aw_imul hO dX12_put_11 rfl ?_
  refine aw_aload_n hO dX12_put_12 rfl rfl ?_
  refine gM_codes hO dX12_put_13 rfl ?_
  refine aw_aload_n hO dX12_put_16 rfl rfl ?_
  refine gM_text hO dX12_put_17 rfl ?_
  refine aw_cg ht ?_
  refine aw_ialdn (N := 5) (i := τ) hO dX12_put_20 rfl (by decide) rfl (by decide) (by omega) (by omega) ?_
  refine aw_cg hk ?_
  refine aw_iadd hO dX12_put_21 rfl ?_
  refine aw_iload_n hO dX12_put_22 rfl rfl ?_
  refine aw_iastn (N := 2600) (i := (520 * τ + k)) hO dX12_put_23 rfl (by decide) rfl (by decide) (by omega) (by omega) ?_
  refine aw_mm (fun μ1 e_μ1 => ?_)
  refine aw_aload_n hO dX12_put_24 rfl rfl ?_
  refine gM_value hO dX12_put_25 rfl ?_
  refine aw_sipush hO dX12_put_28 rfl (by decide) (by decide) ?_
  refine aw_aload_n hO dX12_put_31 rfl rfl ?_
  refine gM_text hO dX12_put_32 rfl ?_
  refine aw_cg (show μ1.1 0 14 = (τ : Int) by rw [e_μ1, mst_nk (by decide), ht]) ?_
  refine aw_imul hO dX12_put_35 rfl ?_
  refine aw_aload_n hO dX12_put_36 rfl rfl ?_
  refine gM_codes hO dX12_put_37 rfl ?_
  refine aw_aload_n hO dX12_put_40 rfl rfl ?_
  refine gM_text hO dX12_put_41 rfl ?_
  refine aw_cg (show μ1.1 0 14 = (τ : Int) by rw [e_μ1, mst_nk (by decide), ht]) ?_
  refine aw_ialdn (N := 5) (i := τ) hO dX12_put_44 rfl (by decide) rfl (by decide) (by omega) (by omega) ?_
  refine aw_cg (show μ1.1 4 τ = (k : Int) by rw [e_μ1, mst_nk (by decide), hk]) ?_
  refine aw_iadd hO dX12_put_45 rfl ?_
  refine aw_iload_n hO dX12_put_46 rfl rfl ?_
  refine aw_iastn (N := 2600) (i := (520 * τ + k)) hO dX12_put_47 rfl (by decide) rfl (by decide) (by omega) (by omega) ?_
  refine aw_mm (fun μ2 e_μ2 => ?_)
  refine aw_aload_n hO dX12_put_48 rfl rfl ?_
  refine gM_codes hO dX12_put_49 rfl ?_
  refine aw_aload_n hO dX12_put_52 rfl rfl ?_
  refine gM_text hO dX12_put_53 rfl ?_
  refine aw_cg (show μ2.1 0 14 = (τ : Int) by rw [e_μ2, mst_nk (by decide), e_μ1, mst_nk (by decide), ht]) ?_
  refine aw_dup2 hO dX12_put_56 rfl rfl rfl ?_
  refine aw_ialdn (N := 5) (i := τ) hO dX12_put_57 rfl (by decide) rfl (by decide) (by omega) (by omega) ?_
  refine aw_cg (show μ2.1 4 τ = (k : Int) by rw [e_μ2, mst_nk (by decide), e_μ1, mst_nk (by decide), hk]) ?_
  refine aw_iconst hO dX12_put_58 rfl ?_
  refine aw_iadd hO dX12_put_59 rfl ?_
  refine aw_iastn (N := 5) (i := τ) hO dX12_put_60 rfl (by decide) rfl (by decide) (by omega) (by omega) ?_
  refine aw_mm (fun μ3 e_μ3 => ?_)
  refine aw_vret hO dX12_put_61 ?_
  exact ⟨rfl, by rw [e_μ3, e_μ2, e_μ1]; rfl⟩
theorem dX12_letterOf_0 : decode cX12_letterOf 0 = .ok (.iload_n 0, 1) := by decide +kernel
theorem dX12_letterOf_1 : decode cX12_letterOf 1 = .ok (.bipush 99, 2) := by decide +kernel
theorem dX12_letterOf_3 : decode cX12_letterOf 3 = .ok (.if_icmp .ne 7, 3) := by decide +kernel
theorem dX12_letterOf_6 : decode cX12_letterOf 6 = .ok (.iconst 0, 1) := by decide +kernel
theorem dX12_letterOf_7 : decode cX12_letterOf 7 = .ok (.goto 54, 3) := by decide +kernel
theorem dX12_letterOf_10 : decode cX12_letterOf 10 = .ok (.iload_n 0, 1) := by decide +kernel
theorem dX12_letterOf_11 : decode cX12_letterOf 11 = .ok (.bipush 107, 2) := by decide +kernel
theorem dX12_letterOf_13 : decode cX12_letterOf 13 = .ok (.if_icmp .ne 7, 3) := by decide +kernel
theorem dX12_letterOf_16 : decode cX12_letterOf 16 = .ok (.iconst 1, 1) := by decide +kernel
theorem dX12_letterOf_17 : decode cX12_letterOf 17 = .ok (.goto 44, 3) := by decide +kernel
theorem dX12_letterOf_20 : decode cX12_letterOf 20 = .ok (.iload_n 0, 1) := by decide +kernel
theorem dX12_letterOf_21 : decode cX12_letterOf 21 = .ok (.bipush 118, 2) := by decide +kernel
theorem dX12_letterOf_23 : decode cX12_letterOf 23 = .ok (.if_icmp .ne 7, 3) := by decide +kernel
theorem dX12_letterOf_26 : decode cX12_letterOf 26 = .ok (.iconst 2, 1) := by decide +kernel
theorem dX12_letterOf_27 : decode cX12_letterOf 27 = .ok (.goto 34, 3) := by decide +kernel
theorem dX12_letterOf_30 : decode cX12_letterOf 30 = .ok (.iload_n 0, 1) := by decide +kernel
theorem dX12_letterOf_31 : decode cX12_letterOf 31 = .ok (.bipush 109, 2) := by decide +kernel
theorem dX12_letterOf_33 : decode cX12_letterOf 33 = .ok (.if_icmp .ne 7, 3) := by decide +kernel
theorem dX12_letterOf_36 : decode cX12_letterOf 36 = .ok (.iconst 3, 1) := by decide +kernel
theorem dX12_letterOf_37 : decode cX12_letterOf 37 = .ok (.goto 24, 3) := by decide +kernel
theorem dX12_letterOf_40 : decode cX12_letterOf 40 = .ok (.iload_n 0, 1) := by decide +kernel
theorem dX12_letterOf_41 : decode cX12_letterOf 41 = .ok (.bipush 104, 2) := by decide +kernel
theorem dX12_letterOf_43 : decode cX12_letterOf 43 = .ok (.if_icmp .ne 7, 3) := by decide +kernel
theorem dX12_letterOf_46 : decode cX12_letterOf 46 = .ok (.iconst 4, 1) := by decide +kernel
theorem dX12_letterOf_47 : decode cX12_letterOf 47 = .ok (.goto 14, 3) := by decide +kernel
theorem dX12_letterOf_50 : decode cX12_letterOf 50 = .ok (.iload_n 0, 1) := by decide +kernel
theorem dX12_letterOf_51 : decode cX12_letterOf 51 = .ok (.bipush 121, 2) := by decide +kernel
theorem dX12_letterOf_53 : decode cX12_letterOf 53 = .ok (.if_icmp .ne 7, 3) := by decide +kernel
theorem dX12_letterOf_56 : decode cX12_letterOf 56 = .ok (.iconst 5, 1) := by decide +kernel
theorem dX12_letterOf_57 : decode cX12_letterOf 57 = .ok (.goto 4, 3) := by decide +kernel
theorem dX12_letterOf_60 : decode cX12_letterOf 60 = .ok (.iconst (-1), 1) := by decide +kernel
theorem dX12_letterOf_61 : decode cX12_letterOf 61 = .ok (.ireturn, 1) := by decide +kernel
theorem letV_eq (v : Int) : (if v ≠ 99 then (if v ≠ 107 then (if v ≠ 118 then (if v ≠ 109 then (if v ≠ 104 then (if v ≠ 121 then (-1) else 5) else 4) else 3) else 2) else 1) else 0) = letV v := by
  unfold letV
  repeat' split
  all_goals first | rfl | omega
set_option maxHeartbeats 4000000 in
set_option maxRecDepth 100000 in
theorem ctM_letterOf0 (μ : Mm) {v : Int} (hv : InR v) : CtI PM 0 yX12_letterOf cX12_letterOf 1 (some .int) [vI v] μ (if v ≠ 99 then (if v ≠ 107 then (if v ≠ 118 then (if v ≠ 109 then (if v ≠ 104 then (if v ≠ 121 then (-1) else 5) else 4) else 3) else 2) else 1) else 0) := by
  refine ct_intro [some (vI v)] RX12 (by decide) rfl XM rfl (Nat.le_of_ble_eq_true rfl) (fun K hO => ?_)
  refine aw_iload_n hO dX12_letterOf_0 rfl rfl ?_
  refine aw_bipush hO dX12_letterOf_1 rfl (by decide) (by decide) ?_
  refine aw_icmp_ne (tgt := 10) hO dX12_letterOf_3 rfl rfl hv (inRlit _) (fun c3 => ?_) (fun c3 => ?_)
  · refine aw_iload_n hO dX12_letterOf_10 rfl rfl ?_
    refine aw_bipush hO dX12_letterOf_11 rfl (by decide) (by decide) ?_
    refine aw_icmp_ne (tgt := 20) hO dX12_letterOf_13 rfl rfl hv (inRlit _) (fun c13 => ?_) (fun c13 => ?_)
    · refine aw_iload_n hO dX12_letterOf_20 rfl rfl ?_
      refine aw_bipush hO dX12_letterOf_21 rfl (by decide) (by decide) ?_
      refine aw_icmp_ne (tgt := 30) hO dX12_letterOf_23 rfl rfl hv (inRlit _) (fun c23 => ?_) (fun c23 => ?_)
      · refine aw_iload_n hO dX12_letterOf_30 rfl rfl ?_
        refine aw_bipush hO dX12_letterOf_31 rfl (by decide) (by decide) ?_
        refine aw_icmp_ne (tgt := 40) hO dX12_letterOf_33 rfl rfl hv (inRlit _) (fun c33 => ?_) (fun c33 => ?_)
        · refine aw_iload_n hO dX12_letterOf_40 rfl rfl ?_
          refine aw_bipush hO dX12_letterOf_41 rfl (by decide) (by decide) ?_
          refine aw_icmp_ne (tgt := 50) hO dX12_letterOf_43 rfl rfl hv (inRlit _) (fun c43 => ?_) (fun c43 => ?_)
          · refine aw_iload_n hO dX12_letterOf_50 rfl rfl ?_
            refine aw_bipush hO dX12_letterOf_51 rfl (by decide) (by decide) ?_
            refine aw_icmp_ne (tgt := 60) hO dX12_letterOf_53 rfl rfl hv (inRlit _) (fun c53 => ?_) (fun c53 => ?_)
            · refine aw_iconst hO dX12_letterOf_60 rfl ?_
              refine aw_iret hO dX12_letterOf_61 ?_
              exact rI (by rw [if_pos c3, if_pos c13, if_pos c23, if_pos c33, if_pos c43, if_pos c53])
            · refine aw_iconst hO dX12_letterOf_56 rfl ?_
              refine aw_goto (tgt := 61) hO dX12_letterOf_57 rfl ?_
              refine aw_iret hO dX12_letterOf_61 ?_
              exact rI (by rw [if_pos c3, if_pos c13, if_pos c23, if_pos c33, if_pos c43, if_neg (fun h => h c53)])
          · refine aw_iconst hO dX12_letterOf_46 rfl ?_
            refine aw_goto (tgt := 61) hO dX12_letterOf_47 rfl ?_
            refine aw_iret hO dX12_letterOf_61 ?_
            exact rI (by rw [if_pos c3, if_pos c13, if_pos c23, if_pos c33, if_neg (fun h => h c43)])
        · refine aw_iconst hO dX12_letterOf_36 rfl ?_
          refine aw_goto (tgt := 61) hO dX12_letterOf_37 rfl ?_
          refine aw_iret hO dX12_letterOf_61 ?_
          exact rI (by rw [if_pos c3, if_pos c13, if_pos c23, if_neg (fun h => h c33)])
      · refine aw_iconst hO dX12_letterOf_26 rfl ?_
        refine aw_goto (tgt := 61) hO dX12_letterOf_27 rfl ?_
        refine aw_iret hO dX12_letterOf_61 ?_
        exact rI (by rw [if_pos c3, if_pos c13, if_neg (fun h => h c23)])
    · refine aw_iconst hO dX12_letterOf_16 rfl ?_
      refine aw_goto (tgt := 61) hO dX12_letterOf_17 rfl ?_
      refine aw_iret hO dX12_letterOf_61 ?_
      exact rI (by rw [if_pos c3, if_neg (fun h => h c13)])
  · refine aw_iconst hO dX12_letterOf_6 rfl ?_
    refine aw_goto (tgt := 61) hO dX12_letterOf_7 rfl ?_
    refine aw_iret hO dX12_letterOf_61 ?_
    exact rI (by rw [if_neg (fun h => h c3)])
theorem ctM_letterOf (μ : Mm) {v : Int} (hv : InR v) : CtI PM 0 yX12_letterOf cX12_letterOf 1 (some .int) [vI v] μ (letV v) := by rw [← letV_eq]; exact ctM_letterOf0 μ hv
theorem dX12_isSign_0 : decode cX12_isSign 0 = .ok (.iload_n 0, 1) := by decide +kernel
theorem dX12_isSign_1 : decode cX12_isSign 1 = .ok (.bipush 61, 2) := by decide +kernel
theorem dX12_isSign_3 : decode cX12_isSign 3 = .ok (.if_icmp .eq 15, 3) := by decide +kernel
theorem dX12_isSign_6 : decode cX12_isSign 6 = .ok (.iload_n 0, 1) := by decide +kernel
theorem dX12_isSign_7 : decode cX12_isSign 7 = .ok (.bipush 60, 2) := by decide +kernel
theorem dX12_isSign_9 : decode cX12_isSign 9 = .ok (.if_icmp .eq 9, 3) := by decide +kernel
theorem dX12_isSign_12 : decode cX12_isSign 12 = .ok (.iload_n 0, 1) := by decide +kernel
theorem dX12_isSign_13 : decode cX12_isSign 13 = .ok (.bipush 62, 2) := by decide +kernel
theorem dX12_isSign_15 : decode cX12_isSign 15 = .ok (.if_icmp .ne 7, 3) := by decide +kernel
theorem dX12_isSign_18 : decode cX12_isSign 18 = .ok (.iconst 1, 1) := by decide +kernel
theorem dX12_isSign_19 : decode cX12_isSign 19 = .ok (.goto 4, 3) := by decide +kernel
theorem dX12_isSign_22 : decode cX12_isSign 22 = .ok (.iconst 0, 1) := by decide +kernel
theorem dX12_isSign_23 : decode cX12_isSign 23 = .ok (.ireturn, 1) := by decide +kernel
set_option maxHeartbeats 4000000 in
set_option maxRecDepth 100000 in
theorem ctM_isSign (μ : Mm) {v : Int} (hv : InR v) : CtI PM 0 yX12_isSign cX12_isSign 1 (some .boolean) [vI v] μ (if (sepR v).isSome = true then 1 else 0) := by
  refine ct_intro [some (vI v)] RX12 (by decide) rfl XM rfl (Nat.le_of_ble_eq_true rfl) (fun K hO => ?_)
  refine aw_iload_n hO dX12_isSign_0 rfl rfl ?_
  refine aw_bipush hO dX12_isSign_1 rfl (by decide) (by decide) ?_
  refine aw_icmp_eq (tgt := 18) hO dX12_isSign_3 rfl rfl hv (inRlit _) (fun c3 => ?_) (fun c3 => ?_)
  · refine aw_iconst hO dX12_isSign_18 rfl ?_
    refine aw_goto (tgt := 23) hO dX12_isSign_19 rfl ?_
    refine aw_zret hO dX12_isSign_23 (Or.inr rfl) ?_
    exact rI (by unfold sepR; rw [if_pos c3]; rfl)
  · refine aw_iload_n hO dX12_isSign_6 rfl rfl ?_
    refine aw_bipush hO dX12_isSign_7 rfl (by decide) (by decide) ?_
    refine aw_icmp_eq (tgt := 18) hO dX12_isSign_9 rfl rfl hv (inRlit _) (fun c9 => ?_) (fun c9 => ?_)
    · refine aw_iconst hO dX12_isSign_18 rfl ?_
      refine aw_goto (tgt := 23) hO dX12_isSign_19 rfl ?_
      refine aw_zret hO dX12_isSign_23 (Or.inr rfl) ?_
      exact rI (by unfold sepR; rw [if_neg c3, if_pos c9]; rfl)
    · refine aw_iload_n hO dX12_isSign_12 rfl rfl ?_
      refine aw_bipush hO dX12_isSign_13 rfl (by decide) (by decide) ?_
      refine aw_icmp_ne (tgt := 22) hO dX12_isSign_15 rfl rfl hv (inRlit _) (fun c15 => ?_) (fun c15 => ?_)
      · refine aw_iconst hO dX12_isSign_22 rfl ?_
        refine aw_zret hO dX12_isSign_23 (Or.inl rfl) ?_
        exact rI (by unfold sepR; rw [if_neg c3, if_neg c9, if_neg c15]; rfl)
      · refine aw_iconst hO dX12_isSign_18 rfl ?_
        refine aw_goto (tgt := 23) hO dX12_isSign_19 rfl ?_
        refine aw_zret hO dX12_isSign_23 (Or.inr rfl) ?_
        exact rI (by unfold sepR; rw [if_neg c3, if_neg c9, if_pos c15]; rfl)
theorem dX12_opens_0 : decode cX12_opens 0 = .ok (.aload_n 0, 1) := by decide +kernel
theorem dX12_opens_1 : decode cX12_opens 1 = .ok (.getfield 113, 3) := by decide +kernel
theorem dX12_opens_4 : decode cX12_opens 4 = .ok (.bipush 6, 2) := by decide +kernel
theorem dX12_opens_6 : decode cX12_opens 6 = .ok (.if_icmp .ne 7, 3) := by decide +kernel
theorem dX12_opens_9 : decode cX12_opens 9 = .ok (.aload_n 0, 1) := by decide +kernel
theorem dX12_opens_10 : decode cX12_opens 10 = .ok (.invokevirtual 116, 3) := by decide +kernel
theorem dX12_opens_13 : decode cX12_opens 13 = .ok (.aload_n 0, 1) := by decide +kernel
theorem dX12_opens_14 : decode cX12_opens 14 = .ok (.dup, 1) := by decide +kernel
theorem dX12_opens_15 : decode cX12_opens 15 = .ok (.getfield 113, 3) := by decide +kernel
theorem dX12_opens_18 : decode cX12_opens 18 = .ok (.iconst 1, 1) := by decide +kernel
theorem dX12_opens_19 : decode cX12_opens 19 = .ok (.iadd, 1) := by decide +kernel
theorem dX12_opens_20 : decode cX12_opens 20 = .ok (.putfield 113, 3) := by decide +kernel
theorem dX12_opens_23 : decode cX12_opens 23 = .ok (.aload_n 0, 1) := by decide +kernel
theorem dX12_opens_24 : decode cX12_opens 24 = .ok (.dup, 1) := by decide +kernel
theorem dX12_opens_25 : decode cX12_opens 25 = .ok (.getfield 100, 3) := by decide +kernel
theorem dX12_opens_28 : decode cX12_opens 28 = .ok (.iconst 1, 1) := by decide +kernel
theorem dX12_opens_29 : decode cX12_opens 29 = .ok (.iadd, 1) := by decide +kernel
theorem dX12_opens_30 : decode cX12_opens 30 = .ok (.putfield 100, 3) := by decide +kernel
theorem dX12_opens_33 : decode cX12_opens 33 = .ok (.return_, 1) := by decide +kernel
set_option maxHeartbeats 4000000 in
set_option maxRecDepth 100000 in
theorem ctM_opens (μ : Mm) {g : Nat → Int} {N τ : Nat} {a d : Nat} {L : List Tok} (h : PS g N τ μ a d L) (hd : d < 6) (hlt : a < N) : CtV PM 1 yX12_opens cX12_opens 1 none [vR 0] μ (fun m => Fr (sS τ) μ m ∧ PS g N τ m (a + 1) (d + 1) L) := by
  refine ct_intro [some (vR 0)] RX12 (by decide) rfl XM rfl (Nat.le_of_ble_eq_true rfl) (fun K hO => ?_)
  have hN := h.1.1.1
  refine aw_aload_n hO dX12_opens_0 rfl rfl ?_
  refine gM_deep hO dX12_opens_1 rfl ?_
  refine aw_cg h.dp ?_
  refine aw_bipush hO dX12_opens_4 rfl (by decide) (by decide) ?_
  refine aw_icmp_ne (tgt := 13) hO dX12_opens_6 rfl rfl (inRn (by omega)) (inRlit _) (fun c6 => ?_) (fun c6 => ?_)
  · refine aw_aload_n hO dX12_opens_13 rfl rfl ?_
    refine aw_dup hO dX12_opens_14 rfl rfl ?_
    refine gM_deep hO dX12_opens_15 rfl ?_
    refine aw_cg h.dp ?_
    refine aw_iconst hO dX12_opens_18 rfl ?_
    refine aw_iadd hO dX12_opens_19 rfl ?_
    refine pM_deep hO dX12_opens_20 rfl ?_
    refine aw_mm (fun μ1 e_μ1 => ?_)
    have hf_μ1 : Fr (sS τ) μ μ1 := by rw [e_μ1]; exact Fr.rf.st sS_dp _
    have hp_μ1 := h.deep (d + 1)
    rw [show ((d + 1 : Nat) : Int) = (d : Int) + 1 from rfl, ← e_μ1] at hp_μ1
    refine aw_aload_n hO dX12_opens_23 rfl rfl ?_
    refine aw_dup hO dX12_opens_24 rfl rfl ?_
    refine gM_at hO dX12_opens_25 rfl ?_
    refine aw_cg hp_μ1.at ?_
    refine aw_iconst hO dX12_opens_28 rfl ?_
    refine aw_iadd hO dX12_opens_29 rfl ?_
    refine pM_at hO dX12_opens_30 rfl ?_
    refine aw_mm (fun μ2 e_μ2 => ?_)
    have hf_μ2 : Fr (sS τ) μ μ2 := by rw [e_μ2]; exact hf_μ1.st sS_at _
    have hp_μ2 := hp_μ1.to (b := (a + 1)) (by omega)
    rw [show (((a + 1) : Nat) : Int) = ((a : Nat) : Int) + 1 from rfl, ← e_μ2] at hp_μ2
    refine aw_vret hO dX12_opens_33 ?_
    exact ⟨rfl, hf_μ2, hp_μ2⟩
  · exact absurd c6 (by omega)
set_option maxHeartbeats 4000000 in
set_option maxRecDepth 100000 in
theorem ctM_opensB (μ : Mm) {g : Nat → Int} {N τ : Nat} {a d : Nat} {L : List Tok} {B : Nat} (h : PS g N τ μ a d L) (hd : d = 6) (hB : L.length ≤ B) : CtV PM 1 yX12_opens cX12_opens 1 none [vR 0] μ (fun m => Fr (sS τ) μ m ∧ Bd g N τ m a B) := by
  refine ct_intro [some (vR 0)] RX12 (by decide) rfl XM rfl (Nat.le_of_ble_eq_true rfl) (fun K hO => ?_)
  have hN := h.1.1.1
  refine aw_aload_n hO dX12_opens_0 rfl rfl ?_
  refine gM_deep hO dX12_opens_1 rfl ?_
  refine aw_cg h.dp ?_
  refine aw_bipush hO dX12_opens_4 rfl (by decide) (by decide) ?_
  refine aw_icmp_ne (tgt := 13) hO dX12_opens_6 rfl rfl (inRn (by omega)) (inRlit _) (fun c6 => ?_) (fun c6 => ?_)
  · exact absurd c6 (by omega)
  · refine aw_aload_n hO dX12_opens_9 rfl rfl ?_
    refine aw_callVV (as := []) (st := []) hO dX12_opens_10 rfl (lw_t6 168 rfl rfl) kX12_bad (T := TX12) rfl (by decide) rfl (ctM_bad μ h.at h.wr) (by decide) rfl rfl rfl (Nat.le_of_ble_eq_true rfl) (fun μ2 hq3 => ?_)
    have hb_μ2 := h.bad (B := B) (by omega)
    rw [← hq3] at hb_μ2
    have hf_μ2 : Fr (sS τ) μ μ2 := by rw [hq3]; exact Fr.rf.st sS_wr _
    refine aw_aload_n hO dX12_opens_13 rfl rfl ?_
    refine aw_dup hO dX12_opens_14 rfl rfl ?_
    refine gM_deep hO dX12_opens_15 rfl ?_
    refine aw_iconst hO dX12_opens_18 rfl ?_
    refine aw_iadd hO dX12_opens_19 rfl ?_
    refine pM_deep hO dX12_opens_20 rfl ?_
    refine aw_mm (fun μ4 e_μ4 => ?_)
    have hf_μ4 : Fr (sS τ) μ μ4 := by rw [e_μ4]; exact hf_μ2.st sS_dp _
    have hb_μ4 := hb_μ2.st (i := 5) (Or.inr rfl) (μ2.1 0 5 + 1)
    rw [← e_μ4] at hb_μ4
    refine aw_aload_n hO dX12_opens_23 rfl rfl ?_
    refine aw_dup hO dX12_opens_24 rfl rfl ?_
    refine gM_at hO dX12_opens_25 rfl ?_
    refine aw_iconst hO dX12_opens_28 rfl ?_
    refine aw_iadd hO dX12_opens_29 rfl ?_
    refine pM_at hO dX12_opens_30 rfl ?_
    refine aw_mm (fun μ5 e_μ5 => ?_)
    have hf_μ5 : Fr (sS τ) μ μ5 := by rw [e_μ5]; exact hf_μ4.st sS_at _
    have hb_μ5 := hb_μ4.st (i := 3) (Or.inl rfl) (μ4.1 0 3 + 1)
    rw [← e_μ5] at hb_μ5
    refine aw_vret hO dX12_opens_33 ?_
    exact ⟨rfl, hf_μ5, hb_μ5⟩
theorem dX12_closes_0 : decode cX12_closes 0 = .ok (.aload_n 0, 1) := by decide +kernel
theorem dX12_closes_1 : decode cX12_closes 1 = .ok (.getfield 107, 3) := by decide +kernel
theorem dX12_closes_4 : decode cX12_closes 4 = .ok (.iconst (-1), 1) := by decide +kernel
theorem dX12_closes_5 : decode cX12_closes 5 = .ok (.if_icmp .ne 15, 3) := by decide +kernel
theorem dX12_closes_8 : decode cX12_closes 8 = .ok (.aload_n 0, 1) := by decide +kernel
theorem dX12_closes_9 : decode cX12_closes 9 = .ok (.invokevirtual 119, 3) := by decide +kernel
theorem dX12_closes_12 : decode cX12_closes 12 = .ok (.iload_n 1, 1) := by decide +kernel
theorem dX12_closes_13 : decode cX12_closes 13 = .ok (.if_icmp .eq 7, 3) := by decide +kernel
theorem dX12_closes_16 : decode cX12_closes 16 = .ok (.aload_n 0, 1) := by decide +kernel
theorem dX12_closes_17 : decode cX12_closes 17 = .ok (.invokevirtual 116, 3) := by decide +kernel
theorem dX12_closes_20 : decode cX12_closes 20 = .ok (.aload_n 0, 1) := by decide +kernel
theorem dX12_closes_21 : decode cX12_closes 21 = .ok (.dup, 1) := by decide +kernel
theorem dX12_closes_22 : decode cX12_closes 22 = .ok (.getfield 100, 3) := by decide +kernel
theorem dX12_closes_25 : decode cX12_closes 25 = .ok (.iconst 1, 1) := by decide +kernel
theorem dX12_closes_26 : decode cX12_closes 26 = .ok (.iadd, 1) := by decide +kernel
theorem dX12_closes_27 : decode cX12_closes 27 = .ok (.putfield 100, 3) := by decide +kernel
theorem dX12_closes_30 : decode cX12_closes 30 = .ok (.aload_n 0, 1) := by decide +kernel
theorem dX12_closes_31 : decode cX12_closes 31 = .ok (.dup, 1) := by decide +kernel
theorem dX12_closes_32 : decode cX12_closes 32 = .ok (.getfield 113, 3) := by decide +kernel
theorem dX12_closes_35 : decode cX12_closes 35 = .ok (.iconst 1, 1) := by decide +kernel
theorem dX12_closes_36 : decode cX12_closes 36 = .ok (.isub, 1) := by decide +kernel
theorem dX12_closes_37 : decode cX12_closes 37 = .ok (.putfield 113, 3) := by decide +kernel
theorem dX12_closes_40 : decode cX12_closes 40 = .ok (.return_, 1) := by decide +kernel
set_option maxHeartbeats 4000000 in
set_option maxRecDepth 100000 in
theorem ctM_closes (μ : Mm) {g : Nat → Int} {N τ : Nat} {a d : Nat} {L : List Tok} {B : Nat} {c : Int} (h : PS g N τ μ a (d + 1) L) (hc : InR c) (hc1 : c ≠ -1) (hB : L.length ≤ B) : CtV PM 2 yX12_closes cX12_closes 2 none [vR 0, vI c] μ (fun m => Fr (sS τ) μ m ∧ (g (sk g a) = c → PS g N τ m (sk g a + 1) d L) ∧ (¬ g (sk g a) = c → Bd g N τ m (sk g a) B)) := by
  refine ct_intro [some (vR 0), some (vI c)] RX12 (by decide) rfl XM rfl (Nat.le_of_ble_eq_true rfl) (fun K hO => ?_)
  have hN := h.1.1.1
  refine aw_aload_n hO dX12_closes_0 rfl rfl ?_
  refine gM_wrong hO dX12_closes_1 rfl ?_
  refine aw_cg h.wr ?_
  refine aw_iconst hO dX12_closes_4 rfl ?_
  refine aw_icmp_ne (tgt := 20) hO dX12_closes_5 rfl rfl (inRlit _) (inRlit _) (fun c5 => ?_) (fun c5 => ?_)
  · exact absurd c5 (by omega)
  · refine aw_aload_n hO dX12_closes_8 rfl rfl ?_
    refine aw_callVE (as := []) (st := []) hO dX12_closes_9 rfl (lw_t6 140 rfl rfl) kX12_look (T := TX12) rfl (by decide) rfl (ctM_look μ h.1 h.at h.le) (by decide) rfl rfl rfl (Nat.le_of_ble_eq_true rfl) (fun v1 μ2 hq3 => ?_)
    obtain ⟨e_v1, e_μ2⟩ := hq3
    subst e_v1
    have hp_μ2 := h.look
    rw [← e_μ2] at hp_μ2
    have hf_μ2 : Fr (sS τ) μ μ2 := by rw [e_μ2]; exact Fr.rf.st sS_at _
    have hr_μ2 := h.G.rng (sk g a)
    refine aw_iload_n hO dX12_closes_12 rfl rfl ?_
    refine aw_icmp_eq (tgt := 20) hO dX12_closes_13 rfl rfl ⟨by omega, by omega⟩ hc (fun c13 => ?_) (fun c13 => ?_)
    · have hlt := h.G.lt (p := sk g a) (by omega)
      refine aw_aload_n hO dX12_closes_20 rfl rfl ?_
      refine aw_dup hO dX12_closes_21 rfl rfl ?_
      refine gM_at hO dX12_closes_22 rfl ?_
      refine aw_cg hp_μ2.at ?_
      refine aw_iconst hO dX12_closes_25 rfl ?_
      refine aw_iadd hO dX12_closes_26 rfl ?_
      refine pM_at hO dX12_closes_27 rfl ?_
      refine aw_mm (fun μ4 e_μ4 => ?_)
      have hf_μ4 : Fr (sS τ) μ μ4 := by rw [e_μ4]; exact hf_μ2.st sS_at _
      have hp_μ4 := hp_μ2.to (b := ((sk g a) + 1)) (by omega)
      rw [show ((((sk g a) + 1) : Nat) : Int) = (((sk g a) : Nat) : Int) + 1 from rfl, ← e_μ4] at hp_μ4
      refine aw_aload_n hO dX12_closes_30 rfl rfl ?_
      refine aw_dup hO dX12_closes_31 rfl rfl ?_
      refine gM_deep hO dX12_closes_32 rfl ?_
      refine aw_cg hp_μ4.dp ?_
      refine aw_iconst hO dX12_closes_35 rfl ?_
      refine aw_isub hO dX12_closes_36 rfl ?_
      refine pM_deep hO dX12_closes_37 rfl ?_
      refine aw_mm (fun μ5 e_μ5 => ?_)
      have hf_μ5 : Fr (sS τ) μ μ5 := by rw [e_μ5]; exact hf_μ4.st sS_dp _
      have hp_μ5 := hp_μ4.deep d
      rw [show (d : Int) = ((d + 1 : Nat) : Int) - 1 by omega, ← e_μ5] at hp_μ5
      refine aw_vret hO dX12_closes_40 ?_
      exact ⟨rfl, hf_μ5, fun _ => hp_μ5, fun e => absurd c13 e⟩
    · refine aw_aload_n hO dX12_closes_16 rfl rfl ?_
      refine aw_callVV (as := []) (st := []) hO dX12_closes_17 rfl (lw_t6 168 rfl rfl) kX12_bad (T := TX12) rfl (by decide) rfl (ctM_bad μ2 hp_μ2.at hp_μ2.wr) (by decide) rfl rfl rfl (Nat.le_of_ble_eq_true rfl) (fun μ7 hq8 => ?_)
      have hb_μ7 := hp_μ2.bad (B := B) (by omega)
      rw [← hq8] at hb_μ7
      have hf_μ7 : Fr (sS τ) μ μ7 := by rw [hq8]; exact hf_μ2.st sS_wr _
      refine aw_aload_n hO dX12_closes_20 rfl rfl ?_
      refine aw_dup hO dX12_closes_21 rfl rfl ?_
      refine gM_at hO dX12_closes_22 rfl ?_
      refine aw_iconst hO dX12_closes_25 rfl ?_
      refine aw_iadd hO dX12_closes_26 rfl ?_
      refine pM_at hO dX12_closes_27 rfl ?_
      refine aw_mm (fun μ9 e_μ9 => ?_)
      have hf_μ9 : Fr (sS τ) μ μ9 := by rw [e_μ9]; exact hf_μ7.st sS_at _
      have hb_μ9 := hb_μ7.st (i := 3) (Or.inl rfl) (μ7.1 0 3 + 1)
      rw [← e_μ9] at hb_μ9
      refine aw_aload_n hO dX12_closes_30 rfl rfl ?_
      refine aw_dup hO dX12_closes_31 rfl rfl ?_
      refine gM_deep hO dX12_closes_32 rfl ?_
      refine aw_iconst hO dX12_closes_35 rfl ?_
      refine aw_isub hO dX12_closes_36 rfl ?_
      refine pM_deep hO dX12_closes_37 rfl ?_
      refine aw_mm (fun μ10 e_μ10 => ?_)
      have hf_μ10 : Fr (sS τ) μ μ10 := by rw [e_μ10]; exact hf_μ9.st sS_dp _
      have hb_μ10 := hb_μ9.st (i := 5) (Or.inr rfl) (μ9.1 0 5 - 1)
      rw [← e_μ10] at hb_μ10
      refine aw_vret hO dX12_closes_40 ?_
      exact ⟨rfl, hf_μ10, fun e => absurd e c13, fun _ => hb_μ10⟩
set_option maxHeartbeats 4000000 in
set_option maxRecDepth 100000 in
theorem ctM_closesB (μ : Mm) {g : Nat → Int} {N τ : Nat} {q B : Nat} {c : Int} (h : Bd g N τ μ q B) : CtV PM 2 yX12_closes cX12_closes 2 none [vR 0, vI c] μ (fun m => Fr (sS τ) μ m ∧ Bd g N τ m q B) := by
  refine ct_intro [some (vR 0), some (vI c)] RX12 (by decide) rfl XM rfl (Nat.le_of_ble_eq_true rfl) (fun K hO => ?_)
  have hN := h.1.1.1
  have hqN := h.2.1.2
  refine aw_aload_n hO dX12_closes_0 rfl rfl ?_
  refine gM_wrong hO dX12_closes_1 rfl ?_
  refine aw_cg h.2.1.1 ?_
  refine aw_iconst hO dX12_closes_4 rfl ?_
  refine aw_icmp_ne (tgt := 20) hO dX12_closes_5 rfl rfl (inRn (by omega)) (inRlit _) (fun c5 => ?_) (fun c5 => ?_)
  · refine aw_aload_n hO dX12_closes_20 rfl rfl ?_
    refine aw_dup hO dX12_closes_21 rfl rfl ?_
    refine gM_at hO dX12_closes_22 rfl ?_
    refine aw_iconst hO dX12_closes_25 rfl ?_
    refine aw_iadd hO dX12_closes_26 rfl ?_
    refine pM_at hO dX12_closes_27 rfl ?_
    refine aw_mm (fun μ1 e_μ1 => ?_)
    have hf_μ1 : Fr (sS τ) μ μ1 := by rw [e_μ1]; exact Fr.rf.st sS_at _
    have hb_μ1 := h.st (i := 3) (Or.inl rfl) (μ.1 0 3 + 1)
    rw [← e_μ1] at hb_μ1
    refine aw_aload_n hO dX12_closes_30 rfl rfl ?_
    refine aw_dup hO dX12_closes_31 rfl rfl ?_
    refine gM_deep hO dX12_closes_32 rfl ?_
    refine aw_iconst hO dX12_closes_35 rfl ?_
    refine aw_isub hO dX12_closes_36 rfl ?_
    refine pM_deep hO dX12_closes_37 rfl ?_
    refine aw_mm (fun μ2 e_μ2 => ?_)
    have hf_μ2 : Fr (sS τ) μ μ2 := by rw [e_μ2]; exact hf_μ1.st sS_dp _
    have hb_μ2 := hb_μ1.st (i := 5) (Or.inr rfl) (μ1.1 0 5 - 1)
    rw [← e_μ2] at hb_μ2
    refine aw_vret hO dX12_closes_40 ?_
    exact ⟨rfl, hf_μ2, hb_μ2⟩
  · exact absurd c5 (by omega)
theorem dX12_plainNumber_0 : decode cX12_plainNumber 0 = .ok (.iconst 0, 1) := by decide +kernel
theorem dX12_plainNumber_1 : decode cX12_plainNumber 1 = .ok (.istore_n 1, 1) := by decide +kernel
theorem dX12_plainNumber_2 : decode cX12_plainNumber 2 = .ok (.iconst 0, 1) := by decide +kernel
theorem dX12_plainNumber_3 : decode cX12_plainNumber 3 = .ok (.istore_n 2, 1) := by decide +kernel
theorem dX12_plainNumber_4 : decode cX12_plainNumber 4 = .ok (.iload_n 2, 1) := by decide +kernel
theorem dX12_plainNumber_5 : decode cX12_plainNumber 5 = .ok (.iconst 4, 1) := by decide +kernel
theorem dX12_plainNumber_6 : decode cX12_plainNumber 6 = .ok (.if_icmp .ge 42, 3) := by decide +kernel
theorem dX12_plainNumber_9 : decode cX12_plainNumber 9 = .ok (.aload_n 0, 1) := by decide +kernel
theorem dX12_plainNumber_10 : decode cX12_plainNumber 10 = .ok (.invokevirtual 103, 3) := by decide +kernel
theorem dX12_plainNumber_13 : decode cX12_plainNumber 13 = .ok (.invokestatic 122, 3) := by decide +kernel
theorem dX12_plainNumber_16 : decode cX12_plainNumber 16 = .ok (.ifCond .eq 32, 3) := by decide +kernel
theorem dX12_plainNumber_19 : decode cX12_plainNumber 19 = .ok (.bipush 10, 2) := by decide +kernel
theorem dX12_plainNumber_21 : decode cX12_plainNumber 21 = .ok (.iload_n 1, 1) := by decide +kernel
theorem dX12_plainNumber_22 : decode cX12_plainNumber 22 = .ok (.imul, 1) := by decide +kernel
theorem dX12_plainNumber_23 : decode cX12_plainNumber 23 = .ok (.aload_n 0, 1) := by decide +kernel
theorem dX12_plainNumber_24 : decode cX12_plainNumber 24 = .ok (.invokevirtual 103, 3) := by decide +kernel
theorem dX12_plainNumber_27 : decode cX12_plainNumber 27 = .ok (.iadd, 1) := by decide +kernel
theorem dX12_plainNumber_28 : decode cX12_plainNumber 28 = .ok (.bipush 48, 2) := by decide +kernel
theorem dX12_plainNumber_30 : decode cX12_plainNumber 30 = .ok (.isub, 1) := by decide +kernel
theorem dX12_plainNumber_31 : decode cX12_plainNumber 31 = .ok (.istore_n 1, 1) := by decide +kernel
theorem dX12_plainNumber_32 : decode cX12_plainNumber 32 = .ok (.aload_n 0, 1) := by decide +kernel
theorem dX12_plainNumber_33 : decode cX12_plainNumber 33 = .ok (.dup, 1) := by decide +kernel
theorem dX12_plainNumber_34 : decode cX12_plainNumber 34 = .ok (.getfield 100, 3) := by decide +kernel
theorem dX12_plainNumber_37 : decode cX12_plainNumber 37 = .ok (.iconst 1, 1) := by decide +kernel
theorem dX12_plainNumber_38 : decode cX12_plainNumber 38 = .ok (.iadd, 1) := by decide +kernel
theorem dX12_plainNumber_39 : decode cX12_plainNumber 39 = .ok (.putfield 100, 3) := by decide +kernel
theorem dX12_plainNumber_42 : decode cX12_plainNumber 42 = .ok (.iinc 2 1, 3) := by decide +kernel
theorem dX12_plainNumber_45 : decode cX12_plainNumber 45 = .ok (.goto (-41), 3) := by decide +kernel
theorem dX12_plainNumber_48 : decode cX12_plainNumber 48 = .ok (.aload_n 0, 1) := by decide +kernel
theorem dX12_plainNumber_49 : decode cX12_plainNumber 49 = .ok (.invokevirtual 103, 3) := by decide +kernel
theorem dX12_plainNumber_52 : decode cX12_plainNumber 52 = .ok (.invokestatic 122, 3) := by decide +kernel
theorem dX12_plainNumber_55 : decode cX12_plainNumber 55 = .ok (.ifCond .eq 7, 3) := by decide +kernel
theorem dX12_plainNumber_58 : decode cX12_plainNumber 58 = .ok (.aload_n 0, 1) := by decide +kernel
theorem dX12_plainNumber_59 : decode cX12_plainNumber 59 = .ok (.invokevirtual 116, 3) := by decide +kernel
theorem dX12_plainNumber_62 : decode cX12_plainNumber 62 = .ok (.iload_n 1, 1) := by decide +kernel
theorem dX12_plainNumber_63 : decode cX12_plainNumber 63 = .ok (.ireturn, 1) := by decide +kernel
set_option maxHeartbeats 4000000 in
set_option maxRecDepth 100000 in
theorem ctM_plainNumber (μ : Mm) {g : Nat → Int} {N τ : Nat} {a d : Nat} {L : List Tok} {B : Nat} (h : PS g N τ μ a d L) (hB : L.length ≤ B) : CtE PM 1 yX12_plainNumber cX12_plainNumber 3 (some .int) [vR 0] μ (fun r m => Fr (sS τ) μ m ∧ (∀ q, pDg g 4 a 0 = (q, none) → Bd g N τ m q B) ∧ (∀ q w, pDg g 4 a 0 = (q, some w) → r = w ∧ PS g N τ m q d L)) := by
  refine ct_intro [some (vR 0), none, none] RX12 (by decide) rfl XM rfl (Nat.le_of_ble_eq_true rfl) (fun K hO => ?_)
  have hN := h.1.1.1
  have hG := h.G
  have lp : ∀ (k : Nat) (b n : Nat) (v : Int) (m : Mm), (n + k = 4) → (pDg g k b v = pDg g 4 a 0) → (Fr (sS τ) μ m) → (PS g N τ m b d L) → AW K 4 [some (vR 0), some (vI v), some (vI ((n : Nat) : Int))] [] m := by
    intro k
    induction k with
    | zero =>
      intro b n v m hk e0 hf hm
      have hr := hG.rng b
      have hle := hm.le
      refine aw_iload_n hO dX12_plainNumber_4 rfl rfl ?_
      refine aw_iconst hO dX12_plainNumber_5 rfl ?_
      refine aw_icmp_ge (tgt := 48) hO dX12_plainNumber_6 rfl rfl (inRn (by omega)) (inRlit _) (fun c6 => ?_) (fun c6 => ?_)
      · refine aw_aload_n hO dX12_plainNumber_48 rfl rfl ?_
        refine aw_callVI (as := []) (st := []) hO dX12_plainNumber_49 rfl (lw_t6 144 rfl rfl) kX12_here (T := TX12) rfl (by decide) rfl (ctM_here m hm.1 hm.at hm.le) (by decide) rfl rfl rfl (Nat.le_of_ble_eq_true rfl) ?_
        refine aw_callSI (as := [vI (g b)]) (st := []) hO dX12_plainNumber_52 rfl (lw_t6 165 rfl rfl) kX12_isDigit (ctM_isDigit m (v := g b) ⟨by omega, by omega⟩) (by decide) rfl rfl rfl (Nat.le_of_ble_eq_true rfl) ?_
        refine aw_ifz_eq (tgt := 62) hO dX12_plainNumber_55 rfl rfl (fun c55 => ?_) (fun c55 => ?_)
        · refine aw_iload_n hO dX12_plainNumber_62 rfl rfl ?_
          refine aw_iret hO dX12_plainNumber_63 ?_
          exact ⟨_, rfl, hf, fun q e => by rw [← e0, pDg, if_neg c55] at e; simp at e, fun q x e => by rw [← e0, pDg, if_neg c55] at e; simp only [Prod.mk.injEq, Option.some.injEq] at e; rw [← e.1, ← e.2]; exact ⟨rfl, hm⟩⟩
        · refine aw_aload_n hO dX12_plainNumber_58 rfl rfl ?_
          refine aw_callVV (as := []) (st := []) hO dX12_plainNumber_59 rfl (lw_t6 168 rfl rfl) kX12_bad (T := TX12) rfl (by decide) rfl (ctM_bad m hm.at hm.wr) (by decide) rfl rfl rfl (Nat.le_of_ble_eq_true rfl) (fun μ2 hq3 => ?_)
          have hb_μ2 := hm.bad (B := B) (by omega)
          rw [← hq3] at hb_μ2
          have hf_μ2 : Fr (sS τ) μ μ2 := by rw [hq3]; exact hf.st sS_wr _
          refine aw_iload_n hO dX12_plainNumber_62 rfl rfl ?_
          refine aw_iret hO dX12_plainNumber_63 ?_
          exact ⟨_, rfl, hf_μ2, fun q e => by rw [← e0, pDg, if_pos c55] at e; simp only [Prod.mk.injEq, and_true] at e; rw [← e]; exact hb_μ2, fun q x e => by rw [← e0, pDg, if_pos c55] at e; simp at e⟩
      · exact absurd c6 (by omega)
    | succ k ih =>
      intro b n v m hk e0 hf hm
      have hr := hG.rng b
      have hle := hm.le
      refine aw_iload_n hO dX12_plainNumber_4 rfl rfl ?_
      refine aw_iconst hO dX12_plainNumber_5 rfl ?_
      refine aw_icmp_ge (tgt := 48) hO dX12_plainNumber_6 rfl rfl (inRn (by omega)) (inRlit _) (fun c6 => ?_) (fun c6 => ?_)
      · exact absurd c6 (by omega)
      · refine aw_aload_n hO dX12_plainNumber_9 rfl rfl ?_
        refine aw_callVI (as := []) (st := []) hO dX12_plainNumber_10 rfl (lw_t6 144 rfl rfl) kX12_here (T := TX12) rfl (by decide) rfl (ctM_here m hm.1 hm.at hm.le) (by decide) rfl rfl rfl (Nat.le_of_ble_eq_true rfl) ?_
        refine aw_callSI (as := [vI (g b)]) (st := []) hO dX12_plainNumber_13 rfl (lw_t6 165 rfl rfl) kX12_isDigit (ctM_isDigit m (v := g b) ⟨by omega, by omega⟩) (by decide) rfl rfl rfl (Nat.le_of_ble_eq_true rfl) ?_
        refine aw_ifz_eq (tgt := 48) hO dX12_plainNumber_16 rfl rfl (fun c16 => ?_) (fun c16 => ?_)
        · refine aw_aload_n hO dX12_plainNumber_48 rfl rfl ?_
          refine aw_callVI (as := []) (st := []) hO dX12_plainNumber_49 rfl (lw_t6 144 rfl rfl) kX12_here (T := TX12) rfl (by decide) rfl (ctM_here m hm.1 hm.at hm.le) (by decide) rfl rfl rfl (Nat.le_of_ble_eq_true rfl) ?_
          refine aw_callSI (as := [vI (g b)]) (st := []) hO dX12_plainNumber_52 rfl (lw_t6 165 rfl rfl) kX12_isDigit (ctM_isDigit m (v := g b) ⟨by omega, by omega⟩) (by decide) rfl rfl rfl (Nat.le_of_ble_eq_true rfl) ?_
          refine aw_ifz_eq (tgt := 62) hO dX12_plainNumber_55 rfl rfl (fun c55 => ?_) (fun c55 => ?_)
          · refine aw_iload_n hO dX12_plainNumber_62 rfl rfl ?_
            refine aw_iret hO dX12_plainNumber_63 ?_
            exact ⟨_, rfl, hf, fun q e => by rw [← e0, pDg, if_neg c16] at e; simp at e, fun q x e => by rw [← e0, pDg, if_neg c16] at e; simp only [Prod.mk.injEq, Option.some.injEq] at e; rw [← e.1, ← e.2]; exact ⟨rfl, hm⟩⟩
          · exact absurd c55 c16
        · have hlt := hG.lt (p := b) (by omega)
          refine aw_bipush hO dX12_plainNumber_19 rfl (by decide) (by decide) ?_
          refine aw_iload_n hO dX12_plainNumber_21 rfl rfl ?_
          refine aw_imul hO dX12_plainNumber_22 rfl ?_
          refine aw_aload_n hO dX12_plainNumber_23 rfl rfl ?_
          refine aw_callVI (as := []) (st := [vI (10 * v)]) hO dX12_plainNumber_24 rfl (lw_t6 144 rfl rfl) kX12_here (T := TX12) rfl (by decide) rfl (ctM_here m hm.1 hm.at hm.le) (by decide) rfl rfl rfl (Nat.le_of_ble_eq_true rfl) ?_
          refine aw_iadd hO dX12_plainNumber_27 rfl ?_
          refine aw_bipush hO dX12_plainNumber_28 rfl (by decide) (by decide) ?_
          refine aw_isub hO dX12_plainNumber_30 rfl ?_
          refine aw_istore_n (ls' := [some (vR 0), some (vI (((10 * v) + (g b)) - 48)), some (vI ((n : Nat) : Int))]) hO dX12_plainNumber_31 rfl (Nat.le_of_ble_eq_true rfl) rfl rfl ?_
          refine aw_aload_n hO dX12_plainNumber_32 rfl rfl ?_
          refine aw_dup hO dX12_plainNumber_33 rfl rfl ?_
          refine gM_at hO dX12_plainNumber_34 rfl ?_
          refine aw_cg hm.at ?_
          refine aw_iconst hO dX12_plainNumber_37 rfl ?_
          refine aw_iadd hO dX12_plainNumber_38 rfl ?_
          refine pM_at hO dX12_plainNumber_39 rfl ?_
          refine aw_mm (fun μ4 e_μ4 => ?_)
          have hf_μ4 : Fr (sS τ) μ μ4 := by rw [e_μ4]; exact hf.st sS_at _
          have hp_μ4 := hm.to (b := (b + 1)) (by omega)
          rw [show (((b + 1) : Nat) : Int) = ((b : Nat) : Int) + 1 from rfl, ← e_μ4] at hp_μ4
          refine aw_iinc (ls' := [some (vR 0), some (vI (((10 * v) + (g b)) - 48)), some (vI (((n : Nat) : Int) + 1))]) hO dX12_plainNumber_42 rfl rfl rfl rfl ?_
          refine aw_lsq (ls' := [some (vR 0), some (vI (((10 * v) + (g b)) - 48)), some (vI (((n + 1) : Nat) : Int))]) rfl ?_
          refine aw_goto (tgt := 4) hO dX12_plainNumber_45 rfl ?_
          refine aw_lsq (ls' := [some (vR 0), some (vI (10 * v + g b - 48)), some (vI (((n + 1) : Nat) : Int))]) rfl ?_
          exact ih (b + 1) (n + 1) (10 * v + g b - 48) μ4 (by omega) (by rw [← e0, pDg, if_pos c16]) hf_μ4 hp_μ4
  refine aw_iconst hO dX12_plainNumber_0 rfl ?_
  refine aw_istore_n (ls' := [some (vR 0), some (vI 0), none]) hO dX12_plainNumber_1 rfl (Nat.le_of_ble_eq_true rfl) rfl rfl ?_
  refine aw_iconst hO dX12_plainNumber_2 rfl ?_
  refine aw_istore_n (ls' := [some (vR 0), some (vI 0), some (vI 0)]) hO dX12_plainNumber_3 rfl (Nat.le_of_ble_eq_true rfl) rfl rfl ?_
  refine aw_lsq (ls' := [some (vR 0), some (vI 0), some (vI ((0 : Nat) : Int))]) rfl ?_
  exact lp 4 a 0 0 μ rfl rfl Fr.rf h
