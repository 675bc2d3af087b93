theorem rI {v w : Int} {μ : Mm} (h : v = w) : (some (vI v) : Option AV) = some (vI w) ∧ μ = μ := ⟨by rw [h], rfl⟩
theorem dX12_in_0 : decode cX12_in 0 = .ok (.iload_n 0, 1) := by decide +kernel
theorem dX12_in_1 : decode cX12_in 1 = .ok (.iload_n 1, 1) := by decide +kernel
theorem dX12_in_2 : decode cX12_in 2 = .ok (.if_icmp .lt 12, 3) := by decide +kernel
theorem dX12_in_5 : decode cX12_in 5 = .ok (.iload_n 0, 1) := by decide +kernel
theorem dX12_in_6 : decode cX12_in 6 = .ok (.iload_n 2, 1) := by decide +kernel
theorem dX12_in_7 : decode cX12_in 7 = .ok (.if_icmp .gt 7, 3) := by decide +kernel
theorem dX12_in_10 : decode cX12_in 10 = .ok (.iconst 1, 1) := by decide +kernel
theorem dX12_in_11 : decode cX12_in 11 = .ok (.goto 4, 3) := by decide +kernel
theorem dX12_in_14 : decode cX12_in 14 = .ok (.iconst 0, 1) := by decide +kernel
theorem dX12_in_15 : decode cX12_in 15 = .ok (.ireturn, 1) := by decide +kernel
set_option maxHeartbeats 4000000 in
set_option maxRecDepth 100000 in
theorem ctM_in (μ : Mm) {v lo hi : Int} (hv : InR v) (hlo : InR lo) (hhi : InR hi) : CtI PM 0 yX12_in cX12_in 3 (some .boolean) [vI v, vI lo, vI hi] μ (if lo ≤ v ∧ v ≤ hi then 1 else 0) := by
  refine ct_intro [some (vI v), some (vI lo), some (vI hi)] RX12 (by decide) rfl XM rfl (Nat.le_of_ble_eq_true rfl) (fun K hO => ?_)
  refine aw_iload_n hO dX12_in_0 rfl rfl ?_
  refine aw_iload_n hO dX12_in_1 rfl rfl ?_
  refine aw_icmp_lt (tgt := 14) hO dX12_in_2 rfl rfl hv hlo (fun c2 => ?_) (fun c2 => ?_)
  · refine aw_iconst hO dX12_in_14 rfl ?_
    refine aw_zret hO dX12_in_15 (Or.inl rfl) ?_
    exact rI (by first | rfl | omega | (split <;> omega))
  · refine aw_iload_n hO dX12_in_5 rfl rfl ?_
    refine aw_iload_n hO dX12_in_6 rfl rfl ?_
    refine aw_icmp_gt (tgt := 14) hO dX12_in_7 rfl rfl hv hhi (fun c7 => ?_) (fun c7 => ?_)
    · refine aw_iconst hO dX12_in_14 rfl ?_
      refine aw_zret hO dX12_in_15 (Or.inl rfl) ?_
      exact rI (by first | rfl | omega | (split <;> omega))
    · refine aw_iconst hO dX12_in_10 rfl ?_
      refine aw_goto (tgt := 15) hO dX12_in_11 rfl ?_
      refine aw_zret hO dX12_in_15 (Or.inr rfl) ?_
      exact rI (by first | rfl | omega | (split <;> omega))
theorem dX12_has_0 : decode cX12_has 0 = .ok (.iload_n 0, 1) := by decide +kernel
theorem dX12_has_1 : decode cX12_has 1 = .ok (.iload_n 1, 1) := by decide +kernel
theorem dX12_has_2 : decode cX12_has 2 = .ok (.ishr, 1) := by decide +kernel
theorem dX12_has_3 : decode cX12_has 3 = .ok (.iconst 1, 1) := by decide +kernel
theorem dX12_has_4 : decode cX12_has 4 = .ok (.iand, 1) := by decide +kernel
theorem dX12_has_5 : decode cX12_has 5 = .ok (.iconst 1, 1) := by decide +kernel
theorem dX12_has_6 : decode cX12_has 6 = .ok (.if_icmp .ne 7, 3) := by decide +kernel
theorem dX12_has_9 : decode cX12_has 9 = .ok (.iconst 1, 1) := by decide +kernel
theorem dX12_has_10 : decode cX12_has 10 = .ok (.goto 4, 3) := by decide +kernel
theorem dX12_has_13 : decode cX12_has 13 = .ok (.iconst 0, 1) := by decide +kernel
theorem dX12_has_14 : decode cX12_has 14 = .ok (.ireturn, 1) := by decide +kernel
set_option maxHeartbeats 4000000 in
set_option maxRecDepth 100000 in
theorem ctM_has (μ : Mm) (v : Int) (k : Nat) : CtI PM 0 yX12_has cX12_has 2 (some .boolean) [vI v, vI ((k : Nat) : Int)] μ (if hasB v k = true then 1 else 0) := by
  refine ct_intro [some (vI v), some (vI ((k : Nat) : Int))] RX12 (by decide) rfl XM rfl (Nat.le_of_ble_eq_true rfl) (fun K hO => ?_)
  refine aw_iload_n hO dX12_has_0 rfl rfl ?_
  refine aw_iload_n hO dX12_has_1 rfl rfl ?_
  refine aw_ishr hO dX12_has_2 rfl ?_
  refine aw_iconst hO dX12_has_3 rfl ?_
  refine aw_iand hO dX12_has_4 rfl ?_
  refine aw_iconst hO dX12_has_5 rfl ?_
  refine aw_icmp_ne (tgt := 13) hO dX12_has_6 rfl rfl (bAnd_R _ _) (inRlit _) (fun c6 => ?_) (fun c6 => ?_)
  · refine aw_iconst hO dX12_has_13 rfl ?_
    refine aw_zret hO dX12_has_14 (Or.inl rfl) ?_
    exact rI (by simp [hasB, c6])
  · refine aw_iconst hO dX12_has_9 rfl ?_
    refine aw_goto (tgt := 14) hO dX12_has_10 rfl ?_
    refine aw_zret hO dX12_has_14 (Or.inr rfl) ?_
    exact rI (by simp [hasB, c6])
theorem dX12_of_0 : decode cX12_of 0 = .ok (.aload_n 0, 1) := by decide +kernel
theorem dX12_of_1 : decode cX12_of 1 = .ok (.getfield 52, 3) := by decide +kernel
theorem dX12_of_4 : decode cX12_of 4 = .ok (.iconst 4, 1) := by decide +kernel
theorem dX12_of_5 : decode cX12_of 5 = .ok (.iload_n 1, 1) := by decide +kernel
theorem dX12_of_6 : decode cX12_of 6 = .ok (.imul, 1) := by decide +kernel
theorem dX12_of_7 : decode cX12_of 7 = .ok (.iload_n 2, 1) := by decide +kernel
theorem dX12_of_8 : decode cX12_of 8 = .ok (.iadd, 1) := by decide +kernel
theorem dX12_of_9 : decode cX12_of 9 = .ok (.iaload, 1) := by decide +kernel
theorem dX12_of_10 : decode cX12_of 10 = .ok (.ireturn, 1) := by decide +kernel
set_option maxHeartbeats 4000000 in
set_option maxRecDepth 100000 in
theorem ctM_of (μ : Mm) {p k : Nat} (hp : p < 6) (hk : k < 4) : CtI PM 0 yX12_of cX12_of 3 (some .int) [vR 0, vI ((p : Nat) : Int), vI ((k : Nat) : Int)] μ (μ.1 15 (4 * p + k)) := by
  refine ct_intro [some (vR 0), some (vI ((p : Nat) : Int)), some (vI ((k : Nat) : Int))] RX12 (by decide) rfl XM rfl (Nat.le_of_ble_eq_true rfl) (fun K hO => ?_)
  refine aw_aload_n hO dX12_of_0 rfl rfl ?_
  refine gM_person hO dX12_of_1 rfl ?_
  refine aw_iconst hO dX12_of_4 rfl ?_
  refine aw_iload_n hO dX12_of_5 rfl rfl ?_
  refine aw_imul hO dX12_of_6 rfl ?_
  refine aw_iload_n hO dX12_of_7 rfl rfl ?_
  refine aw_iadd hO dX12_of_8 rfl ?_
  refine aw_ialdn (N := 24) (i := ((4 * p) + k)) hO dX12_of_9 rfl (by decide) rfl (by decide) (by omega) (by omega) ?_
  refine aw_iret hO dX12_of_10 ?_
  exact rI (by first | rfl | omega | (split <;> omega))
theorem dX12_isPerson_0 : decode cX12_isPerson 0 = .ok (.iload_n 1, 1) := by decide +kernel
theorem dX12_isPerson_1 : decode cX12_isPerson 1 = .ok (.iconst 0, 1) := by decide +kernel
theorem dX12_isPerson_2 : decode cX12_isPerson 2 = .ok (.aload_n 0, 1) := by decide +kernel
theorem dX12_isPerson_3 : decode cX12_isPerson 3 = .ok (.getfield 242, 3) := by decide +kernel
theorem dX12_isPerson_6 : decode cX12_isPerson 6 = .ok (.iconst 1, 1) := by decide +kernel
theorem dX12_isPerson_7 : decode cX12_isPerson 7 = .ok (.isub, 1) := by decide +kernel
theorem dX12_isPerson_8 : decode cX12_isPerson 8 = .ok (.invokestatic 205, 3) := by decide +kernel
theorem dX12_isPerson_11 : decode cX12_isPerson 11 = .ok (.ireturn, 1) := by decide +kernel
set_option maxHeartbeats 4000000 in
set_option maxRecDepth 100000 in
theorem ctM_isPerson (μ : Mm) (h : MB μ) {v : Int} (hv : InR v) : CtI PM 1 yX12_isPerson cX12_isPerson 2 (some .boolean) [vR 0, vI v] μ (if 0 ≤ v ∧ v < μ.1 0 25 then 1 else 0) := by
  refine ct_intro [some (vR 0), some (vI v)] RX12 (by decide) rfl XM rfl (Nat.le_of_ble_eq_true rfl) (fun K hO => ?_)
  have hnp := h.np
  refine aw_iload_n hO dX12_isPerson_0 rfl rfl ?_
  refine aw_iconst hO dX12_isPerson_1 rfl ?_
  refine aw_aload_n hO dX12_isPerson_2 rfl rfl ?_
  refine gM_persons hO dX12_isPerson_3 rfl ?_
  refine aw_iconst hO dX12_isPerson_6 rfl ?_
  refine aw_isub hO dX12_isPerson_7 rfl ?_
  refine aw_callSI (as := [vI v, vI 0, vI ((μ.1 0 25) - 1)]) (st := []) hO dX12_isPerson_8 rfl (lw_t6 172 rfl rfl) kX12_in (ctM_in μ hv (inRlit _) ⟨by omega, by omega⟩) (by decide) rfl rfl rfl (Nat.le_of_ble_eq_true rfl) ?_
  refine aw_zret hO dX12_isPerson_11 z01 ?_
  exact rI (by split <;> split <;> omega)
theorem dX12_isAway_0 : decode cX12_isAway 0 = .ok (.aload_n 0, 1) := by decide +kernel
theorem dX12_isAway_1 : decode cX12_isAway 1 = .ok (.getfield 58, 3) := by decide +kernel
theorem dX12_isAway_4 : decode cX12_isAway 4 = .ok (.bipush 31, 2) := by decide +kernel
theorem dX12_isAway_6 : decode cX12_isAway 6 = .ok (.iaload, 1) := by decide +kernel
theorem dX12_isAway_7 : decode cX12_isAway 7 = .ok (.iload_n 1, 1) := by decide +kernel
theorem dX12_isAway_8 : decode cX12_isAway 8 = .ok (.invokestatic 216, 3) := by decide +kernel
theorem dX12_isAway_11 : decode cX12_isAway 11 = .ok (.ireturn, 1) := by decide +kernel
set_option maxHeartbeats 4000000 in
set_option maxRecDepth 100000 in
theorem ctM_isAway (μ : Mm) (p : Nat) : CtI PM 1 yX12_isAway cX12_isAway 2 (some .boolean) [vR 0, vI ((p : Nat) : Int)] μ (if hasB (μ.1 17 31) p = true then 1 else 0) := by
  refine ct_intro [some (vR 0), some (vI ((p : Nat) : Int))] RX12 (by decide) rfl XM rfl (Nat.le_of_ble_eq_true rfl) (fun K hO => ?_)
  refine aw_aload_n hO dX12_isAway_0 rfl rfl ?_
  refine gM_now hO dX12_isAway_1 rfl ?_
  refine aw_bipush hO dX12_isAway_4 rfl (by decide) (by decide) ?_
  refine aw_ialdn (N := 218) (i := 31) hO dX12_isAway_6 rfl (by decide) rfl (by decide) rfl (by decide) ?_
  refine aw_iload_n hO dX12_isAway_7 rfl rfl ?_
  refine aw_callSI (as := [vI (μ.1 17 31), vI ((p : Nat) : Int)]) (st := []) hO dX12_isAway_8 rfl (lw_t6 155 rfl rfl) kX12_has (ctM_has μ (μ.1 17 31) p) (by decide) rfl rfl rfl (Nat.le_of_ble_eq_true rfl) ?_
  refine aw_zret hO dX12_isAway_11 z01 ?_
  exact rI rfl
theorem dX12_everybody_0 : decode cX12_everybody 0 = .ok (.iconst 1, 1) := by decide +kernel
theorem dX12_everybody_1 : decode cX12_everybody 1 = .ok (.aload_n 0, 1) := by decide +kernel
theorem dX12_everybody_2 : decode cX12_everybody 2 = .ok (.getfield 242, 3) := by decide +kernel
theorem dX12_everybody_5 : decode cX12_everybody 5 = .ok (.ishl, 1) := by decide +kernel
theorem dX12_everybody_6 : decode cX12_everybody 6 = .ok (.iconst 1, 1) := by decide +kernel
theorem dX12_everybody_7 : decode cX12_everybody 7 = .ok (.isub, 1) := by decide +kernel
theorem dX12_everybody_8 : decode cX12_everybody 8 = .ok (.ireturn, 1) := by decide +kernel
set_option maxHeartbeats 4000000 in
set_option maxRecDepth 100000 in
theorem ctM_everybody (μ : Mm) : CtI PM 0 yX12_everybody cX12_everybody 1 (some .int) [vR 0] μ (bShl 1 (μ.1 0 25) - 1) := by
  refine ct_intro [some (vR 0)] RX12 (by decide) rfl XM rfl (Nat.le_of_ble_eq_true rfl) (fun K hO => ?_)
  refine aw_iconst hO dX12_everybody_0 rfl ?_
  refine aw_aload_n hO dX12_everybody_1 rfl rfl ?_
  refine gM_persons hO dX12_everybody_2 rfl ?_
  refine aw_ishl hO dX12_everybody_5 rfl ?_
  refine aw_iconst hO dX12_everybody_6 rfl ?_
  refine aw_isub hO dX12_everybody_7 rfl ?_
  refine aw_iret hO dX12_everybody_8 ?_
  exact rI (by first | rfl | omega | (split <;> omega))
theorem dX12_isDigit_0 : decode cX12_isDigit 0 = .ok (.iload_n 0, 1) := by decide +kernel
theorem dX12_isDigit_1 : decode cX12_isDigit 1 = .ok (.bipush 48, 2) := by decide +kernel
theorem dX12_isDigit_3 : decode cX12_isDigit 3 = .ok (.if_icmp .lt 13, 3) := by decide +kernel
theorem dX12_isDigit_6 : decode cX12_isDigit 6 = .ok (.iload_n 0, 1) := by decide +kernel
theorem dX12_isDigit_7 : decode cX12_isDigit 7 = .ok (.bipush 57, 2) := by decide +kernel
theorem dX12_isDigit_9 : decode cX12_isDigit 9 = .ok (.if_icmp .gt 7, 3) := by decide +kernel
theorem dX12_isDigit_12 : decode cX12_isDigit 12 = .ok (.iconst 1, 1) := by decide +kernel
theorem dX12_isDigit_13 : decode cX12_isDigit 13 = .ok (.goto 4, 3) := by decide +kernel
theorem dX12_isDigit_16 : decode cX12_isDigit 16 = .ok (.iconst 0, 1) := by decide +kernel
theorem dX12_isDigit_17 : decode cX12_isDigit 17 = .ok (.ireturn, 1) := by decide +kernel
set_option maxHeartbeats 4000000 in
set_option maxRecDepth 100000 in
theorem ctM_isDigit (μ : Mm) {v : Int} (hv : InR v) : CtI PM 0 yX12_isDigit cX12_isDigit 1 (some .boolean) [vI v] μ (if 48 ≤ v ∧ v ≤ 57 then 1 else 0) := by
  refine ct_intro [some (vI v)] RX12 (by decide) rfl XM rfl (Nat.le_of_ble_eq_true rfl) (fun K hO => ?_)
  refine aw_iload_n hO dX12_isDigit_0 rfl rfl ?_
  refine aw_bipush hO dX12_isDigit_1 rfl (by decide) (by decide) ?_
  refine aw_icmp_lt (tgt := 16) hO dX12_isDigit_3 rfl rfl hv (inRlit _) (fun c3 => ?_) (fun c3 => ?_)
  · refine aw_iconst hO dX12_isDigit_16 rfl ?_
    refine aw_zret hO dX12_isDigit_17 (Or.inl rfl) ?_
    exact rI (by first | rfl | omega | (split <;> omega))
  · refine aw_iload_n hO dX12_isDigit_6 rfl rfl ?_
    refine aw_bipush hO dX12_isDigit_7 rfl (by decide) (by decide) ?_
    refine aw_icmp_gt (tgt := 16) hO dX12_isDigit_9 rfl rfl hv (inRlit _) (fun c9 => ?_) (fun c9 => ?_)
    · refine aw_iconst hO dX12_isDigit_16 rfl ?_
      refine aw_zret hO dX12_isDigit_17 (Or.inl rfl) ?_
      exact rI (by first | rfl | omega | (split <;> omega))
    · refine aw_iconst hO dX12_isDigit_12 rfl ?_
      refine aw_goto (tgt := 17) hO dX12_isDigit_13 rfl ?_
      refine aw_zret hO dX12_isDigit_17 (Or.inr rfl) ?_
      exact rI (by first | rfl | omega | (split <;> omega))
theorem dX12_held_0 : decode cX12_held 0 = .ok (.bipush (-99), 2) := by decide +kernel
theorem dX12_held_2 : decode cX12_held 2 = .ok (.bipush 99, 2) := by decide +kernel
theorem dX12_held_4 : decode cX12_held 4 = .ok (.iload_n 0, 1) := by decide +kernel
theorem dX12_held_5 : decode cX12_held 5 = .ok (.invokestatic 267, 3) := by decide +kernel
theorem dX12_held_8 : decode cX12_held 8 = .ok (.invokestatic 269, 3) := by decide +kernel
theorem dX12_held_11 : decode cX12_held 11 = .ok (.ireturn, 1) := by decide +kernel
set_option maxHeartbeats 4000000 in
set_option maxRecDepth 100000 in
theorem ctM_held (μ : Mm) {v : Int} (hv : InR v) : CtI PM 1 yX12_held cX12_held 1 (some .int) [vI v] μ (clampI 99 v) := by
  refine ct_intro [some (vI v)] RX12 (by decide) rfl XM rfl (Nat.le_of_ble_eq_true rfl) (fun K hO => ?_)
  refine aw_bipush hO dX12_held_0 rfl (by decide) (by decide) ?_
  refine aw_bipush hO dX12_held_2 rfl (by decide) (by decide) ?_
  refine aw_iload_n hO dX12_held_4 rfl rfl ?_
  refine aw_mmin hO dX12_held_5 rfl (lw_t7 37 rfl rfl) mth_min (by decide) rfl (Nat.le_of_ble_eq_true rfl) (inRlit _) hv ?_
  refine aw_mmax hO dX12_held_8 rfl (lw_t7 71 rfl rfl) mth_max (by decide) rfl (Nat.le_of_ble_eq_true rfl) (inRlit _) ⟨by omega, by omega⟩ ?_
  refine aw_iret hO dX12_held_11 ?_
  exact rI rfl
