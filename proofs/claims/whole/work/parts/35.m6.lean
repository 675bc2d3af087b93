theorem dX12_metBy_0 : decode cX12_metBy 0 = .ok (.iconst 0, 1) := by decide +kernel
theorem dX12_metBy_1 : decode cX12_metBy 1 = .ok (.istore_n 2, 1) := by decide +kernel
theorem dX12_metBy_2 : decode cX12_metBy 2 = .ok (.iconst 0, 1) := by decide +kernel
theorem dX12_metBy_3 : decode cX12_metBy 3 = .ok (.istore_n 3, 1) := by decide +kernel
theorem dX12_metBy_4 : decode cX12_metBy 4 = .ok (.iload_n 3, 1) := by decide +kernel
theorem dX12_metBy_5 : decode cX12_metBy 5 = .ok (.aload_n 0, 1) := by decide +kernel
theorem dX12_metBy_6 : decode cX12_metBy 6 = .ok (.getfield 245, 3) := by decide +kernel
theorem dX12_metBy_9 : decode cX12_metBy 9 = .ok (.if_icmp .ge 51, 3) := by decide +kernel
theorem dX12_metBy_12 : decode cX12_metBy 12 = .ok (.iload_n 1, 1) := by decide +kernel
theorem dX12_metBy_13 : decode cX12_metBy 13 = .ok (.iconst (-1), 1) := by decide +kernel
theorem dX12_metBy_14 : decode cX12_metBy 14 = .ok (.if_icmp .eq 46, 3) := by decide +kernel
theorem dX12_metBy_17 : decode cX12_metBy 17 = .ok (.iload_n 2, 1) := by decide +kernel
theorem dX12_metBy_18 : decode cX12_metBy 18 = .ok (.aload_n 0, 1) := by decide +kernel
theorem dX12_metBy_19 : decode cX12_metBy 19 = .ok (.iload_n 1, 1) := by decide +kernel
theorem dX12_metBy_20 : decode cX12_metBy 20 = .ok (.aload_n 0, 1) := by decide +kernel
theorem dX12_metBy_21 : decode cX12_metBy 21 = .ok (.getfield 55, 3) := by decide +kernel
theorem dX12_metBy_24 : decode cX12_metBy 24 = .ok (.iconst 3, 1) := by decide +kernel
theorem dX12_metBy_25 : decode cX12_metBy 25 = .ok (.iload_n 3, 1) := by decide +kernel
theorem dX12_metBy_26 : decode cX12_metBy 26 = .ok (.imul, 1) := by decide +kernel
theorem dX12_metBy_27 : decode cX12_metBy 27 = .ok (.iconst 0, 1) := by decide +kernel
theorem dX12_metBy_28 : decode cX12_metBy 28 = .ok (.iadd, 1) := by decide +kernel
theorem dX12_metBy_29 : decode cX12_metBy 29 = .ok (.iaload, 1) := by decide +kernel
theorem dX12_metBy_30 : decode cX12_metBy 30 = .ok (.invokevirtual 264, 3) := by decide +kernel
theorem dX12_metBy_33 : decode cX12_metBy 33 = .ok (.aload_n 0, 1) := by decide +kernel
theorem dX12_metBy_34 : decode cX12_metBy 34 = .ok (.getfield 58, 3) := by decide +kernel
theorem dX12_metBy_37 : decode cX12_metBy 37 = .ok (.bipush 24, 2) := by decide +kernel
theorem dX12_metBy_39 : decode cX12_metBy 39 = .ok (.iload_n 3, 1) := by decide +kernel
theorem dX12_metBy_40 : decode cX12_metBy 40 = .ok (.iadd, 1) := by decide +kernel
theorem dX12_metBy_41 : decode cX12_metBy 41 = .ok (.iaload, 1) := by decide +kernel
theorem dX12_metBy_42 : decode cX12_metBy 42 = .ok (.if_icmp .lt 9, 3) := by decide +kernel
theorem dX12_metBy_45 : decode cX12_metBy 45 = .ok (.iconst 1, 1) := by decide +kernel
theorem dX12_metBy_46 : decode cX12_metBy 46 = .ok (.iload_n 3, 1) := by decide +kernel
theorem dX12_metBy_47 : decode cX12_metBy 47 = .ok (.ishl, 1) := by decide +kernel
theorem dX12_metBy_48 : decode cX12_metBy 48 = .ok (.goto 4, 3) := by decide +kernel
theorem dX12_metBy_51 : decode cX12_metBy 51 = .ok (.iconst 0, 1) := by decide +kernel
theorem dX12_metBy_52 : decode cX12_metBy 52 = .ok (.ior, 1) := by decide +kernel
theorem dX12_metBy_53 : decode cX12_metBy 53 = .ok (.istore_n 2, 1) := by decide +kernel
theorem dX12_metBy_54 : decode cX12_metBy 54 = .ok (.iinc 3 1, 3) := by decide +kernel
theorem dX12_metBy_57 : decode cX12_metBy 57 = .ok (.goto (-53), 3) := by decide +kernel
theorem dX12_metBy_60 : decode cX12_metBy 60 = .ok (.iload_n 2, 1) := by decide +kernel
theorem dX12_metBy_61 : decode cX12_metBy 61 = .ok (.ireturn, 1) := by decide +kernel
set_option maxHeartbeats 4000000 in
set_option maxRecDepth 100000 in
theorem ctM_metBy (μ : Mm) (h : MB μ) {q : Int} (hq : -1 ≤ q) (hq2 : q < 6) : CtI PM 1 yX12_metBy cX12_metBy 4 (some .int) [vR 0, vI q] μ (metM μ q (μ.1 0 26).toNat) := by
  refine ct_intro [some (vR 0), some (vI q), none, none] RX12 (by decide) rfl XM rfl (Nat.le_of_ble_eq_true rfl) (fun K hO => ?_)
  have hnt := h.nt
  have lp : ∀ (c : Nat) (t : Nat) (s : Int), ((t : Int) + c = μ.1 0 26) → (s = metM μ q t) → AW K 4 [some (vR 0), some (vI q), some (vI s), some (vI ((t : Nat) : Int))] [] μ := by
    intro c
    induction c with
    | zero =>
      intro t s ht hs
      refine aw_iload_n hO dX12_metBy_4 rfl rfl ?_
      refine aw_aload_n hO dX12_metBy_5 rfl rfl ?_
      refine gM_troubles hO dX12_metBy_6 rfl ?_
      refine aw_icmp_ge (tgt := 60) hO dX12_metBy_9 rfl rfl (inRn (by omega)) ⟨by omega, by omega⟩ (fun c9 => ?_) (fun c9 => ?_)
      · refine aw_iload_n hO dX12_metBy_60 rfl rfl ?_
        refine aw_iret hO dX12_metBy_61 ?_
        exact rI (by rw [hs, show (μ.1 0 26).toNat = t by omega])
      · exact absurd c9 (by omega)
    | succ c ih =>
      intro t s ht hs
      refine aw_iload_n hO dX12_metBy_4 rfl rfl ?_
      refine aw_aload_n hO dX12_metBy_5 rfl rfl ?_
      refine gM_troubles hO dX12_metBy_6 rfl ?_
      refine aw_icmp_ge (tgt := 60) hO dX12_metBy_9 rfl rfl (inRn (by omega)) ⟨by omega, by omega⟩ (fun c9 => ?_) (fun c9 => ?_)
      · exact absurd c9 (by omega)
      · refine aw_iload_n hO dX12_metBy_12 rfl rfl ?_
        refine aw_iconst hO dX12_metBy_13 rfl ?_
        refine aw_icmp_eq (tgt := 60) hO dX12_metBy_14 rfl rfl ⟨by omega, by omega⟩ (inRlit _) (fun c14 => ?_) (fun c14 => ?_)
        · refine aw_iload_n hO dX12_metBy_60 rfl rfl ?_
          refine aw_iret hO dX12_metBy_61 ?_
          exact rI (by rw [hs, c14, metM_n, metM_n])
        · have hq3 : 0 ≤ q ∧ q < 6 := by omega
          refine aw_iload_n hO dX12_metBy_17 rfl rfl ?_
          refine aw_aload_n hO dX12_metBy_18 rfl rfl ?_
          refine aw_iload_n hO dX12_metBy_19 rfl rfl ?_
          refine aw_aload_n hO dX12_metBy_20 rfl rfl ?_
          refine gM_trouble hO dX12_metBy_21 rfl ?_
          refine aw_iconst hO dX12_metBy_24 rfl ?_
          refine aw_iload_n hO dX12_metBy_25 rfl rfl ?_
          refine aw_imul hO dX12_metBy_26 rfl ?_
          refine aw_iconst hO dX12_metBy_27 rfl ?_
          refine aw_iadd hO dX12_metBy_28 rfl ?_
          refine aw_ialdn (N := 15) (i := (3 * t)) hO dX12_metBy_29 rfl (by decide) rfl (by decide) (by omega) (by omega) ?_
          have htr := h.tr (t := t) (by omega)
          refine aw_stq (st' := [vI (((μ.1 16 (3 * t)).toNat : Nat) : Int), vI ((q.toNat : Nat) : Int), vR 0, vI s]) (by rw [Int.toNat_of_nonneg (by omega), Int.toNat_of_nonneg (by omega)]) ?_
          refine aw_callVI (as := [vI ((q.toNat : Nat) : Int), vI (((μ.1 16 (3 * t)).toNat : Nat) : Int)]) (st := [vI s]) hO dX12_metBy_30 rfl (lw_t7 25 rfl rfl) kX12_of (T := TX12) rfl (by decide) rfl (ctM_of μ (p := q.toNat) (k := (μ.1 16 (3 * t)).toNat) (by omega) (by omega)) (by decide) rfl rfl rfl (Nat.le_of_ble_eq_true rfl) ?_
          have q1 := h.tra (p := q.toNat) (k := (μ.1 16 (3 * t)).toNat) (by omega) (by omega)
          have q2 := h.now.ask (j := 24 + t) (by omega) (by omega)
          refine aw_aload_n hO dX12_metBy_33 rfl rfl ?_
          refine gM_now hO dX12_metBy_34 rfl ?_
          refine aw_bipush hO dX12_metBy_37 rfl (by decide) (by decide) ?_
          refine aw_iload_n hO dX12_metBy_39 rfl rfl ?_
          refine aw_iadd hO dX12_metBy_40 rfl ?_
          refine aw_ialdn (N := 218) (i := (24 + t)) hO dX12_metBy_41 rfl (by decide) rfl (by decide) (by omega) (by omega) ?_
          refine aw_icmp_lt (tgt := 51) hO dX12_metBy_42 rfl rfl ⟨by omega, by omega⟩ ⟨by omega, by omega⟩ (fun c42 => ?_) (fun c42 => ?_)
          · refine aw_iconst hO dX12_metBy_51 rfl ?_
            refine aw_ior hO dX12_metBy_52 rfl ?_
            refine aw_istore_n (ls' := [some (vR 0), some (vI q), some (vI (bOr s 0)), some (vI ((t : Nat) : Int))]) hO dX12_metBy_53 rfl (Nat.le_of_ble_eq_true rfl) rfl rfl ?_
            refine aw_iinc (ls' := [some (vR 0), some (vI q), some (vI (bOr s 0)), some (vI (((t : Nat) : Int) + 1))]) hO dX12_metBy_54 rfl rfl rfl rfl ?_
            refine aw_lsq (ls' := [some (vR 0), some (vI q), some (vI (bOr s 0)), some (vI (((t + 1) : Nat) : Int))]) rfl ?_
            refine aw_goto (tgt := 4) hO dX12_metBy_57 rfl ?_
            refine aw_lsq (ls' := [some (vR 0), some (vI q), some (vI (bOr s 0)), some (vI (((t + 1) : Nat) : Int))]) rfl ?_
            exact ih (t + 1) _ (by omega) (by rw [metM_s c14, ← hs, if_neg (Int.not_le.mpr c42)])
          · refine aw_iconst hO dX12_metBy_45 rfl ?_
            refine aw_iload_n hO dX12_metBy_46 rfl rfl ?_
            refine aw_ishl hO dX12_metBy_47 rfl ?_
            refine aw_goto (tgt := 52) hO dX12_metBy_48 rfl ?_
            refine aw_ior hO dX12_metBy_52 rfl ?_
            refine aw_istore_n (ls' := [some (vR 0), some (vI q), some (vI (bOr s (bShl 1 ((t : Nat) : Int)))), some (vI ((t : Nat) : Int))]) hO dX12_metBy_53 rfl (Nat.le_of_ble_eq_true rfl) rfl rfl ?_
            refine aw_iinc (ls' := [some (vR 0), some (vI q), some (vI (bOr s (bShl 1 ((t : Nat) : Int)))), some (vI (((t : Nat) : Int) + 1))]) hO dX12_metBy_54 rfl rfl rfl rfl ?_
            refine aw_lsq (ls' := [some (vR 0), some (vI q), some (vI (bOr s (bShl 1 ((t : Nat) : Int)))), some (vI (((t + 1) : Nat) : Int))]) rfl ?_
            refine aw_goto (tgt := 4) hO dX12_metBy_57 rfl ?_
            refine aw_lsq (ls' := [some (vR 0), some (vI q), some (vI (bOr s (bShl 1 ((t : Nat) : Int)))), some (vI (((t + 1) : Nat) : Int))]) rfl ?_
            exact ih (t + 1) _ (by omega) (by rw [metM_s c14, ← hs, if_pos c42])
  refine aw_iconst hO dX12_metBy_0 rfl ?_
  refine aw_istore_n (ls' := [some (vR 0), some (vI q), some (vI 0), none]) hO dX12_metBy_1 rfl (Nat.le_of_ble_eq_true rfl) rfl rfl ?_
  refine aw_iconst hO dX12_metBy_2 rfl ?_
  refine aw_istore_n (ls' := [some (vR 0), some (vI q), some (vI 0), some (vI 0)]) hO dX12_metBy_3 rfl (Nat.le_of_ble_eq_true rfl) rfl rfl ?_
  refine aw_lsq (ls' := [some (vR 0), some (vI q), some (vI 0), some (vI ((0 : Nat) : Int))]) rfl ?_
  exact lp (μ.1 0 26).toNat 0 0 (by omega) metM_0.symm
theorem dX12_farTo_0 : decode cX12_farTo 0 = .ok (.iload_n 1, 1) := by decide +kernel
theorem dX12_farTo_1 : decode cX12_farTo 1 = .ok (.aload_n 0, 1) := by decide +kernel
theorem dX12_farTo_2 : decode cX12_farTo 2 = .ok (.getfield 58, 3) := by decide +kernel
theorem dX12_farTo_5 : decode cX12_farTo 5 = .ok (.bipush 29, 2) := by decide +kernel
theorem dX12_farTo_7 : decode cX12_farTo 7 = .ok (.iaload, 1) := by decide +kernel
theorem dX12_farTo_8 : decode cX12_farTo 8 = .ok (.isub, 1) := by decide +kernel
theorem dX12_farTo_9 : decode cX12_farTo 9 = .ok (.invokestatic 316, 3) := by decide +kernel
theorem dX12_farTo_12 : decode cX12_farTo 12 = .ok (.ireturn, 1) := by decide +kernel
set_option maxHeartbeats 4000000 in
set_option maxRecDepth 100000 in
theorem ctM_farTo (μ : Mm) (h : MB μ) {v : Int} (hv : 0 ≤ v) (hv2 : v ≤ 20) : CtI PM 1 yX12_farTo cX12_farTo 2 (some .int) [vR 0, vI v] μ (if 0 ≤ v - μ.1 17 29 then v - μ.1 17 29 else -(v - μ.1 17 29)) := by
  refine ct_intro [some (vR 0), some (vI v)] RX12 (by decide) rfl XM rfl (Nat.le_of_ble_eq_true rfl) (fun K hO => ?_)
  have hn := h.now.rest
  refine aw_iload_n hO dX12_farTo_0 rfl rfl ?_
  refine aw_aload_n hO dX12_farTo_1 rfl rfl ?_
  refine gM_now hO dX12_farTo_2 rfl ?_
  refine aw_bipush hO dX12_farTo_5 rfl (by decide) (by decide) ?_
  refine aw_ialdn (N := 218) (i := 29) hO dX12_farTo_7 rfl (by decide) rfl (by decide) rfl (by decide) ?_
  refine aw_isub hO dX12_farTo_8 rfl ?_
  refine aw_mabs hO dX12_farTo_9 rfl (lw_t7 58 rfl rfl) mth_abs (by decide) rfl (Nat.le_of_ble_eq_true rfl) ⟨by omega, by omega⟩ ?_
  refine aw_iret hO dX12_farTo_12 ?_
  exact rI rfl
theorem dX12_isTooFar_0 : decode cX12_isTooFar 0 = .ok (.aload_n 0, 1) := by decide +kernel
theorem dX12_isTooFar_1 : decode cX12_isTooFar 1 = .ok (.getfield 58, 3) := by decide +kernel
theorem dX12_isTooFar_4 : decode cX12_isTooFar 4 = .ok (.bipush 30, 2) := by decide +kernel
theorem dX12_isTooFar_6 : decode cX12_isTooFar 6 = .ok (.iaload, 1) := by decide +kernel
theorem dX12_isTooFar_7 : decode cX12_isTooFar 7 = .ok (.aload_n 0, 1) := by decide +kernel
theorem dX12_isTooFar_8 : decode cX12_isTooFar 8 = .ok (.iload_n 1, 1) := by decide +kernel
theorem dX12_isTooFar_9 : decode cX12_isTooFar 9 = .ok (.invokevirtual 319, 3) := by decide +kernel
theorem dX12_isTooFar_12 : decode cX12_isTooFar 12 = .ok (.iadd, 1) := by decide +kernel
theorem dX12_isTooFar_13 : decode cX12_isTooFar 13 = .ok (.bipush 40, 2) := by decide +kernel
theorem dX12_isTooFar_15 : decode cX12_isTooFar 15 = .ok (.if_icmp .le 7, 3) := by decide +kernel
theorem dX12_isTooFar_18 : decode cX12_isTooFar 18 = .ok (.iconst 1, 1) := by decide +kernel
theorem dX12_isTooFar_19 : decode cX12_isTooFar 19 = .ok (.goto 4, 3) := by decide +kernel
theorem dX12_isTooFar_22 : decode cX12_isTooFar 22 = .ok (.iconst 0, 1) := by decide +kernel
theorem dX12_isTooFar_23 : decode cX12_isTooFar 23 = .ok (.ireturn, 1) := by decide +kernel
set_option maxHeartbeats 4000000 in
set_option maxRecDepth 100000 in
theorem ctM_isTooFar (μ : Mm) (h : MB μ) {v : Int} (hv : 0 ≤ v) (hv2 : v ≤ 20) : CtI PM 2 yX12_isTooFar cX12_isTooFar 2 (some .boolean) [vR 0, vI v] μ (if 40 < μ.1 17 30 + (if 0 ≤ v - μ.1 17 29 then v - μ.1 17 29 else -(v - μ.1 17 29)) then 1 else 0) := by
  refine ct_intro [some (vR 0), some (vI v)] RX12 (by decide) rfl XM rfl (Nat.le_of_ble_eq_true rfl) (fun K hO => ?_)
  have hn := h.now.rest
  refine aw_aload_n hO dX12_isTooFar_0 rfl rfl ?_
  refine gM_now hO dX12_isTooFar_1 rfl ?_
  refine aw_bipush hO dX12_isTooFar_4 rfl (by decide) (by decide) ?_
  refine aw_ialdn (N := 218) (i := 30) hO dX12_isTooFar_6 rfl (by decide) rfl (by decide) rfl (by decide) ?_
  refine aw_aload_n hO dX12_isTooFar_7 rfl rfl ?_
  refine aw_iload_n hO dX12_isTooFar_8 rfl rfl ?_
  refine aw_callVI (as := [vI v]) (st := [vI (μ.1 17 30)]) hO dX12_isTooFar_9 rfl (lw_t7 54 rfl rfl) kX12_farTo (T := TX12) rfl (by decide) rfl (ctM_farTo μ h (v := v) (by omega) (by omega)) (by decide) rfl rfl rfl (Nat.le_of_ble_eq_true rfl) ?_
  refine aw_iadd hO dX12_isTooFar_12 rfl ?_
  refine aw_bipush hO dX12_isTooFar_13 rfl (by decide) (by decide) ?_
  refine aw_icmp_le (tgt := 22) hO dX12_isTooFar_15 rfl rfl ⟨by split <;> omega, by split <;> omega⟩ (inRlit _) (fun c15 => ?_) (fun c15 => ?_)
  · refine aw_iconst hO dX12_isTooFar_22 rfl ?_
    refine aw_zret hO dX12_isTooFar_23 (Or.inl rfl) ?_
    exact rI (by rw [if_neg (by omega)])
  · refine aw_iconst hO dX12_isTooFar_18 rfl ?_
    refine aw_goto (tgt := 23) hO dX12_isTooFar_19 rfl ?_
    refine aw_zret hO dX12_isTooFar_23 (Or.inr rfl) ?_
    exact rI (by rw [if_pos c15])
theorem dX12_canFeign_0 : decode cX12_canFeign 0 = .ok (.aload_n 0, 1) := by decide +kernel
theorem dX12_canFeign_1 : decode cX12_canFeign 1 = .ok (.iload_n 1, 1) := by decide +kernel
theorem dX12_canFeign_2 : decode cX12_canFeign 2 = .ok (.invokevirtual 280, 3) := by decide +kernel
theorem dX12_canFeign_5 : decode cX12_canFeign 5 = .ok (.ifCond .ne 24, 3) := by decide +kernel
theorem dX12_canFeign_8 : decode cX12_canFeign 8 = .ok (.aload_n 0, 1) := by decide +kernel
theorem dX12_canFeign_9 : decode cX12_canFeign 9 = .ok (.getfield 58, 3) := by decide +kernel
theorem dX12_canFeign_12 : decode cX12_canFeign 12 = .ok (.bipush 6, 2) := by decide +kernel
theorem dX12_canFeign_14 : decode cX12_canFeign 14 = .ok (.iconst 2, 1) := by decide +kernel
theorem dX12_canFeign_15 : decode cX12_canFeign 15 = .ok (.iload_n 1, 1) := by decide +kernel
theorem dX12_canFeign_16 : decode cX12_canFeign 16 = .ok (.imul, 1) := by decide +kernel
theorem dX12_canFeign_17 : decode cX12_canFeign 17 = .ok (.iadd, 1) := by decide +kernel
theorem dX12_canFeign_18 : decode cX12_canFeign 18 = .ok (.iload_n 2, 1) := by decide +kernel
theorem dX12_canFeign_19 : decode cX12_canFeign 19 = .ok (.iadd, 1) := by decide +kernel
theorem dX12_canFeign_20 : decode cX12_canFeign 20 = .ok (.iaload, 1) := by decide +kernel
theorem dX12_canFeign_21 : decode cX12_canFeign 21 = .ok (.iconst 3, 1) := by decide +kernel
theorem dX12_canFeign_22 : decode cX12_canFeign 22 = .ok (.if_icmp .ge 7, 3) := by decide +kernel
theorem dX12_canFeign_25 : decode cX12_canFeign 25 = .ok (.iconst 1, 1) := by decide +kernel
theorem dX12_canFeign_26 : decode cX12_canFeign 26 = .ok (.goto 4, 3) := by decide +kernel
theorem dX12_canFeign_29 : decode cX12_canFeign 29 = .ok (.iconst 0, 1) := by decide +kernel
theorem dX12_canFeign_30 : decode cX12_canFeign 30 = .ok (.ireturn, 1) := by decide +kernel
set_option maxHeartbeats 4000000 in
set_option maxRecDepth 100000 in
theorem ctM_canFeign (μ : Mm) (h : MB μ) {p k : Nat} (hp : p < 6) (hk : k < 2) : CtI PM 2 yX12_canFeign cX12_canFeign 3 (some .boolean) [vR 0, vI ((p : Nat) : Int), vI ((k : Nat) : Int)] μ (if hasB (μ.1 17 31) p = false ∧ μ.1 17 (6 + 2 * p + k) < 3 then 1 else 0) := by
  refine ct_intro [some (vR 0), some (vI ((p : Nat) : Int)), some (vI ((k : Nat) : Int))] RX12 (by decide) rfl XM rfl (Nat.le_of_ble_eq_true rfl) (fun K hO => ?_)
  have hf := h.now.fei (j := 6 + 2 * p + k) (by omega) (by omega)
  refine aw_aload_n hO dX12_canFeign_0 rfl rfl ?_
  refine aw_iload_n hO dX12_canFeign_1 rfl rfl ?_
  refine aw_callVI (as := [vI ((p : Nat) : Int)]) (st := []) hO dX12_canFeign_2 rfl (lw_t7 29 rfl rfl) kX12_isAway (T := TX12) rfl (by decide) rfl (ctM_isAway μ p) (by decide) rfl rfl rfl (Nat.le_of_ble_eq_true rfl) ?_
  refine aw_if_ne (tgt := 29) hO dX12_canFeign_5 rfl rfl ⟨by split <;> omega, by split <;> omega⟩ (fun c5 => ?_) (fun c5 => ?_)
  · have c5b : hasB (μ.1 17 31) p = true := by revert c5; cases hasB (μ.1 17 31) p <;> simp
    refine aw_iconst hO dX12_canFeign_29 rfl ?_
    refine aw_zret hO dX12_canFeign_30 (Or.inl rfl) ?_
    exact rI (by rw [if_neg (by rw [c5b]; simp)])
  · have c5b : hasB (μ.1 17 31) p = false := by revert c5; cases hasB (μ.1 17 31) p <;> simp
    refine aw_aload_n hO dX12_canFeign_8 rfl rfl ?_
    refine gM_now hO dX12_canFeign_9 rfl ?_
    refine aw_bipush hO dX12_canFeign_12 rfl (by decide) (by decide) ?_
    refine aw_iconst hO dX12_canFeign_14 rfl ?_
    refine aw_iload_n hO dX12_canFeign_15 rfl rfl ?_
    refine aw_imul hO dX12_canFeign_16 rfl ?_
    refine aw_iadd hO dX12_canFeign_17 rfl ?_
    refine aw_iload_n hO dX12_canFeign_18 rfl rfl ?_
    refine aw_iadd hO dX12_canFeign_19 rfl ?_
    refine aw_ialdn (N := 218) (i := (6 + 2 * p + k)) hO dX12_canFeign_20 rfl (by decide) rfl (by decide) (by omega) (by omega) ?_
    refine aw_iconst hO dX12_canFeign_21 rfl ?_
    refine aw_icmp_ge (tgt := 29) hO dX12_canFeign_22 rfl rfl ⟨by omega, by omega⟩ (inRlit _) (fun c22 => ?_) (fun c22 => ?_)
    · refine aw_iconst hO dX12_canFeign_29 rfl ?_
      refine aw_zret hO dX12_canFeign_30 (Or.inl rfl) ?_
      exact rI (by rw [if_neg (fun q => by have := q.2; omega)])
    · refine aw_iconst hO dX12_canFeign_25 rfl ?_
      refine aw_goto (tgt := 30) hO dX12_canFeign_26 rfl ?_
      refine aw_zret hO dX12_canFeign_30 (Or.inr rfl) ?_
      exact rI (by rw [if_pos ⟨c5b, c22⟩])
theorem dX12_areYears_0 : decode cX12_areYears 0 = .ok (.iload_n 1, 1) := by decide +kernel
theorem dX12_areYears_1 : decode cX12_areYears 1 = .ok (.iconst 1, 1) := by decide +kernel
theorem dX12_areYears_2 : decode cX12_areYears 2 = .ok (.bipush 60, 2) := by decide +kernel
theorem dX12_areYears_4 : decode cX12_areYears 4 = .ok (.invokestatic 205, 3) := by decide +kernel
theorem dX12_areYears_7 : decode cX12_areYears 7 = .ok (.ifCond .eq 22, 3) := by decide +kernel
theorem dX12_areYears_10 : decode cX12_areYears 10 = .ok (.aload_n 0, 1) := by decide +kernel
theorem dX12_areYears_11 : decode cX12_areYears 11 = .ok (.getfield 58, 3) := by decide +kernel
theorem dX12_areYears_14 : decode cX12_areYears 14 = .ok (.bipush 36, 2) := by decide +kernel
theorem dX12_areYears_16 : decode cX12_areYears 16 = .ok (.iaload, 1) := by decide +kernel
theorem dX12_areYears_17 : decode cX12_areYears 17 = .ok (.iload_n 1, 1) := by decide +kernel
theorem dX12_areYears_18 : decode cX12_areYears 18 = .ok (.iadd, 1) := by decide +kernel
theorem dX12_areYears_19 : decode cX12_areYears 19 = .ok (.sipush 999, 3) := by decide +kernel
theorem dX12_areYears_22 : decode cX12_areYears 22 = .ok (.if_icmp .gt 7, 3) := by decide +kernel
theorem dX12_areYears_25 : decode cX12_areYears 25 = .ok (.iconst 1, 1) := by decide +kernel
theorem dX12_areYears_26 : decode cX12_areYears 26 = .ok (.goto 4, 3) := by decide +kernel
theorem dX12_areYears_29 : decode cX12_areYears 29 = .ok (.iconst 0, 1) := by decide +kernel
theorem dX12_areYears_30 : decode cX12_areYears 30 = .ok (.ireturn, 1) := by decide +kernel
set_option maxHeartbeats 4000000 in
set_option maxRecDepth 100000 in
theorem ctM_areYears (μ : Mm) (h : MB μ) {v : Int} (hv : InR v) : CtI PM 1 yX12_areYears cX12_areYears 2 (some .boolean) [vR 0, vI v] μ (if (1 ≤ v ∧ v ≤ 60) ∧ μ.1 17 36 + v ≤ 999 then 1 else 0) := by
  refine ct_intro [some (vR 0), some (vI v)] RX12 (by decide) rfl XM rfl (Nat.le_of_ble_eq_true rfl) (fun K hO => ?_)
  have hn := h.now.rest
  refine aw_iload_n hO dX12_areYears_0 rfl rfl ?_
  refine aw_iconst hO dX12_areYears_1 rfl ?_
  refine aw_bipush hO dX12_areYears_2 rfl (by decide) (by decide) ?_
  refine aw_callSI (as := [vI v, vI 1, vI 60]) (st := []) hO dX12_areYears_4 rfl (lw_t6 172 rfl rfl) kX12_in (ctM_in μ hv (inRlit _) (inRlit _)) (by decide) rfl rfl rfl (Nat.le_of_ble_eq_true rfl) ?_
  refine aw_ifz_eq (tgt := 29) hO dX12_areYears_7 rfl rfl (fun c7 => ?_) (fun c7 => ?_)
  · have c7b := c7
    refine aw_iconst hO dX12_areYears_29 rfl ?_
    refine aw_zret hO dX12_areYears_30 (Or.inl rfl) ?_
    exact rI (by rw [if_neg (fun q => c7b q.1)])
  · have c7b := c7
    refine aw_aload_n hO dX12_areYears_10 rfl rfl ?_
    refine gM_now hO dX12_areYears_11 rfl ?_
    refine aw_bipush hO dX12_areYears_14 rfl (by decide) (by decide) ?_
    refine aw_ialdn (N := 218) (i := 36) hO dX12_areYears_16 rfl (by decide) rfl (by decide) rfl (by decide) ?_
    refine aw_iload_n hO dX12_areYears_17 rfl rfl ?_
    refine aw_iadd hO dX12_areYears_18 rfl ?_
    refine aw_sipush hO dX12_areYears_19 rfl (by decide) (by decide) ?_
    refine aw_icmp_gt (tgt := 29) hO dX12_areYears_22 rfl rfl ⟨by omega, by omega⟩ (inRlit _) (fun c22 => ?_) (fun c22 => ?_)
    · refine aw_iconst hO dX12_areYears_29 rfl ?_
      refine aw_zret hO dX12_areYears_30 (Or.inl rfl) ?_
      exact rI (by rw [if_neg (fun q => by have := q.2; omega)])
    · refine aw_iconst hO dX12_areYears_25 rfl ?_
      refine aw_goto (tgt := 30) hO dX12_areYears_26 rfl ?_
      refine aw_zret hO dX12_areYears_30 (Or.inr rfl) ?_
      exact rI (by rw [if_pos ⟨c7b, c22⟩])
theorem dX12_meetMore_0 : decode cX12_meetMore 0 = .ok (.aload_n 0, 1) := by decide +kernel
theorem dX12_meetMore_1 : decode cX12_meetMore 1 = .ok (.getfield 58, 3) := by decide +kernel
theorem dX12_meetMore_4 : decode cX12_meetMore 4 = .ok (.iconst 0, 1) := by decide +kernel
theorem dX12_meetMore_5 : decode cX12_meetMore 5 = .ok (.iload_n 1, 1) := by decide +kernel
theorem dX12_meetMore_6 : decode cX12_meetMore 6 = .ok (.iadd, 1) := by decide +kernel
theorem dX12_meetMore_7 : decode cX12_meetMore 7 = .ok (.bipush 9, 2) := by decide +kernel
theorem dX12_meetMore_9 : decode cX12_meetMore 9 = .ok (.aload_n 0, 1) := by decide +kernel
theorem dX12_meetMore_10 : decode cX12_meetMore 10 = .ok (.getfield 58, 3) := by decide +kernel
theorem dX12_meetMore_13 : decode cX12_meetMore 13 = .ok (.iconst 0, 1) := by decide +kernel
theorem dX12_meetMore_14 : decode cX12_meetMore 14 = .ok (.iload_n 1, 1) := by decide +kernel
theorem dX12_meetMore_15 : decode cX12_meetMore 15 = .ok (.iadd, 1) := by decide +kernel
theorem dX12_meetMore_16 : decode cX12_meetMore 16 = .ok (.iaload, 1) := by decide +kernel
theorem dX12_meetMore_17 : decode cX12_meetMore 17 = .ok (.iconst 1, 1) := by decide +kernel
theorem dX12_meetMore_18 : decode cX12_meetMore 18 = .ok (.iadd, 1) := by decide +kernel
theorem dX12_meetMore_19 : decode cX12_meetMore 19 = .ok (.invokestatic 267, 3) := by decide +kernel
theorem dX12_meetMore_22 : decode cX12_meetMore 22 = .ok (.iastore, 1) := by decide +kernel
theorem dX12_meetMore_23 : decode cX12_meetMore 23 = .ok (.return_, 1) := by decide +kernel
set_option maxHeartbeats 4000000 in
set_option maxRecDepth 100000 in
theorem ctM_meetMore (μ : Mm) (h : MB μ) {p : Nat} (hp : p < 6) : CtV PM 1 yX12_meetMore cX12_meetMore 2 none [vR 0, vI ((p : Nat) : Int)] μ (fun m => m = mst μ 17 p (min 9 (μ.1 17 p + 1))) := by
  refine ct_intro [some (vR 0), some (vI ((p : Nat) : Int))] RX12 (by decide) rfl XM rfl (Nat.le_of_ble_eq_true rfl) (fun K hO => ?_)
  have hm := h.now.met hp
  refine aw_aload_n hO dX12_meetMore_0 rfl rfl ?_
  refine gM_now hO dX12_meetMore_1 rfl ?_
  refine aw_iconst hO dX12_meetMore_4 rfl ?_
  refine aw_iload_n hO dX12_meetMore_5 rfl rfl ?_
  refine aw_iadd hO dX12_meetMore_6 rfl ?_
  refine aw_bipush hO dX12_meetMore_7 rfl (by decide) (by decide) ?_
  refine aw_aload_n hO dX12_meetMore_9 rfl rfl ?_
  refine gM_now hO dX12_meetMore_10 rfl ?_
  refine aw_iconst hO dX12_meetMore_13 rfl ?_
  refine aw_iload_n hO dX12_meetMore_14 rfl rfl ?_
  refine aw_iadd hO dX12_meetMore_15 rfl ?_
  refine aw_ialdn (N := 218) (i := p) hO dX12_meetMore_16 rfl (by decide) rfl (by decide) (by omega) (by omega) ?_
  refine aw_iconst hO dX12_meetMore_17 rfl ?_
  refine aw_iadd hO dX12_meetMore_18 rfl ?_
  refine aw_mmin hO dX12_meetMore_19 rfl (lw_t7 37 rfl rfl) mth_min (by decide) rfl (Nat.le_of_ble_eq_true rfl) (inRlit _) ⟨by omega, by omega⟩ ?_
  refine aw_iastn (N := 218) (i := p) hO dX12_meetMore_22 rfl (by decide) rfl (by decide) (by omega) (by omega) ?_
  refine aw_mm (fun μ1 e_μ1 => ?_)
  refine aw_vret hO dX12_meetMore_23 ?_
  exact ⟨rfl, e_μ1⟩

/-- a stretch of one cell copied into another -/
def mcp (μ : Mm) (dst src dO sO n : Nat) : Mm := (fun k i => if k = dst ∧ dO ≤ i ∧ i < dO + n then μ.1 src (sO + (i - dO)) else μ.1 k i, μ.2)
theorem mcp_0 (μ : Mm) (dst src dO sO : Nat) : mcp μ dst src dO sO 0 = μ := by
  unfold mcp
  refine Prod.ext (funext fun k => funext fun i => ?_) rfl
  simp only
  rw [if_neg (by omega)]
theorem mcp_s {μ : Mm} {dst src dO sO n : Nat} : mst (mcp μ dst src dO sO n) dst (dO + n) (μ.1 src (sO + n)) = mcp μ dst src dO sO (n + 1) := by
  unfold mcp mst
  refine Prod.ext (funext fun k => funext fun i => ?_) rfl
  simp only
  by_cases h : k = dst ∧ i = dO + n
  · rw [if_pos h, if_pos (by omega), h.2, show dO + n - dO = n by omega]
  · rw [if_neg h]
    by_cases h2 : k = dst ∧ dO ≤ i ∧ i < dO + n
    · rw [if_pos h2, if_pos (by omega)]
    · rw [if_neg h2, if_neg (by omega)]
theorem mcp_nk {μ : Mm} {dst src dO sO n k i : Nat} (h : k ≠ dst) : (mcp μ dst src dO sO n).1 k i = μ.1 k i := by
  unfold mcp; simp only; rw [if_neg (fun q => h q.1)]
theorem mcp_in {μ : Mm} {dst src dO sO n i : Nat} (h1 : dO ≤ i) (h2 : i < dO + n) : (mcp μ dst src dO sO n).1 dst i = μ.1 src (sO + (i - dO)) := by
  unfold mcp; simp only; rw [if_pos ⟨trivial, h1, h2⟩]
theorem mcp_out {μ : Mm} {dst src dO sO n i : Nat} (h : i < dO ∨ dO + n ≤ i) : (mcp μ dst src dO sO n).1 dst i = μ.1 dst i := by
  unfold mcp; simp only; rw [if_neg (by omega)]
theorem dX12_putAside_0 : decode cX12_putAside 0 = .ok (.iconst 0, 1) := by decide +kernel
theorem dX12_putAside_1 : decode cX12_putAside 1 = .ok (.istore_n 1, 1) := by decide +kernel
theorem dX12_putAside_2 : decode cX12_putAside 2 = .ok (.iload_n 1, 1) := by decide +kernel
theorem dX12_putAside_3 : decode cX12_putAside 3 = .ok (.bipush 37, 2) := by decide +kernel
theorem dX12_putAside_5 : decode cX12_putAside 5 = .ok (.if_icmp .ge 21, 3) := by decide +kernel
theorem dX12_putAside_8 : decode cX12_putAside 8 = .ok (.aload_n 0, 1) := by decide +kernel
theorem dX12_putAside_9 : decode cX12_putAside 9 = .ok (.getfield 74, 3) := by decide +kernel
theorem dX12_putAside_12 : decode cX12_putAside 12 = .ok (.iload_n 1, 1) := by decide +kernel
theorem dX12_putAside_13 : decode cX12_putAside 13 = .ok (.aload_n 0, 1) := by decide +kernel
theorem dX12_putAside_14 : decode cX12_putAside 14 = .ok (.getfield 58, 3) := by decide +kernel
theorem dX12_putAside_17 : decode cX12_putAside 17 = .ok (.iload_n 1, 1) := by decide +kernel
theorem dX12_putAside_18 : decode cX12_putAside 18 = .ok (.iaload, 1) := by decide +kernel
theorem dX12_putAside_19 : decode cX12_putAside 19 = .ok (.iastore, 1) := by decide +kernel
theorem dX12_putAside_20 : decode cX12_putAside 20 = .ok (.iinc 1 1, 3) := by decide +kernel
theorem dX12_putAside_23 : decode cX12_putAside 23 = .ok (.goto (-21), 3) := by decide +kernel
theorem dX12_putAside_26 : decode cX12_putAside 26 = .ok (.return_, 1) := by decide +kernel
set_option maxHeartbeats 4000000 in
set_option maxRecDepth 100000 in
theorem ctM_putAside (μ : Mm) : CtV PM 0 yX12_putAside cX12_putAside 2 none [vR 0] μ (fun m => m = mcp μ 20 17 0 0 37) := by
  refine ct_intro [some (vR 0), none] RX12 (by decide) rfl XM rfl (Nat.le_of_ble_eq_true rfl) (fun K hO => ?_)
  have lp : ∀ (c : Nat) (k : Nat) (m : Mm), (k + c = 37) → (m = mcp μ 20 17 0 0 k) → AW K 2 [some (vR 0), some (vI ((k : Nat) : Int))] [] m := by
    intro c
    induction c with
    | zero =>
      intro k m hk hm
      refine aw_iload_n hO dX12_putAside_2 rfl rfl ?_
      refine aw_bipush hO dX12_putAside_3 rfl (by decide) (by decide) ?_
      refine aw_icmp_ge (tgt := 26) hO dX12_putAside_5 rfl rfl (inRn (by omega)) (inRlit _) (fun c5 => ?_) (fun c5 => ?_)
      · refine aw_vret hO dX12_putAside_26 ?_
        exact ⟨rfl, by rw [hm, show k = 37 by omega]⟩
      · exact absurd c5 (by omega)
    | succ c ih =>
      intro k m hk hm
      refine aw_iload_n hO dX12_putAside_2 rfl rfl ?_
      refine aw_bipush hO dX12_putAside_3 rfl (by decide) (by decide) ?_
      refine aw_icmp_ge (tgt := 26) hO dX12_putAside_5 rfl rfl (inRn (by omega)) (inRlit _) (fun c5 => ?_) (fun c5 => ?_)
      · exact absurd c5 (by omega)
      · refine aw_aload_n hO dX12_putAside_8 rfl rfl ?_
        refine gM_aside hO dX12_putAside_9 rfl ?_
        refine aw_iload_n hO dX12_putAside_12 rfl rfl ?_
        refine aw_aload_n hO dX12_putAside_13 rfl rfl ?_
        refine gM_now hO dX12_putAside_14 rfl ?_
        refine aw_iload_n hO dX12_putAside_17 rfl rfl ?_
        refine aw_ialdn (N := 218) (i := k) hO dX12_putAside_18 rfl (by decide) rfl (by decide) (by omega) (by omega) ?_
        refine aw_cg (show m.1 17 k = μ.1 17 k by rw [hm]; exact mcp_nk (by decide)) ?_
        refine aw_iastn (N := 37) (i := k) hO dX12_putAside_19 rfl (by decide) rfl (by decide) (by omega) (by omega) ?_
        refine aw_mm (fun μ1 e_μ1 => ?_)
        refine aw_iinc (ls' := [some (vR 0), some (vI (((k : Nat) : Int) + 1))]) hO dX12_putAside_20 rfl rfl rfl rfl ?_
        refine aw_lsq (ls' := [some (vR 0), some (vI (((k + 1) : Nat) : Int))]) rfl ?_
        refine aw_goto (tgt := 2) hO dX12_putAside_23 rfl ?_
        refine aw_lsq (ls' := [some (vR 0), some (vI (((k + 1) : Nat) : Int))]) rfl ?_
        exact ih (k + 1) μ1 (by omega) (by rw [e_μ1, hm]; have := @mcp_s μ 20 17 0 0 k; simp only [Nat.zero_add] at this; exact this)
  refine aw_iconst hO dX12_putAside_0 rfl ?_
  refine aw_istore_n (ls' := [some (vR 0), some (vI 0)]) hO dX12_putAside_1 rfl (Nat.le_of_ble_eq_true rfl) rfl rfl ?_
  refine aw_lsq (ls' := [some (vR 0), some (vI ((0 : Nat) : Int))]) rfl ?_
  exact lp 37 0 μ rfl (mcp_0 _ _ _ _ _).symm
theorem dX12_takeBack_0 : decode cX12_takeBack 0 = .ok (.iconst 0, 1) := by decide +kernel
theorem dX12_takeBack_1 : decode cX12_takeBack 1 = .ok (.istore_n 1, 1) := by decide +kernel
theorem dX12_takeBack_2 : decode cX12_takeBack 2 = .ok (.iload_n 1, 1) := by decide +kernel
theorem dX12_takeBack_3 : decode cX12_takeBack 3 = .ok (.bipush 37, 2) := by decide +kernel
theorem dX12_takeBack_5 : decode cX12_takeBack 5 = .ok (.if_icmp .ge 21, 3) := by decide +kernel
theorem dX12_takeBack_8 : decode cX12_takeBack 8 = .ok (.aload_n 0, 1) := by decide +kernel
theorem dX12_takeBack_9 : decode cX12_takeBack 9 = .ok (.getfield 58, 3) := by decide +kernel
theorem dX12_takeBack_12 : decode cX12_takeBack 12 = .ok (.iload_n 1, 1) := by decide +kernel
theorem dX12_takeBack_13 : decode cX12_takeBack 13 = .ok (.aload_n 0, 1) := by decide +kernel
theorem dX12_takeBack_14 : decode cX12_takeBack 14 = .ok (.getfield 74, 3) := by decide +kernel
theorem dX12_takeBack_17 : decode cX12_takeBack 17 = .ok (.iload_n 1, 1) := by decide +kernel
theorem dX12_takeBack_18 : decode cX12_takeBack 18 = .ok (.iaload, 1) := by decide +kernel
theorem dX12_takeBack_19 : decode cX12_takeBack 19 = .ok (.iastore, 1) := by decide +kernel
theorem dX12_takeBack_20 : decode cX12_takeBack 20 = .ok (.iinc 1 1, 3) := by decide +kernel
theorem dX12_takeBack_23 : decode cX12_takeBack 23 = .ok (.goto (-21), 3) := by decide +kernel
theorem dX12_takeBack_26 : decode cX12_takeBack 26 = .ok (.return_, 1) := by decide +kernel
set_option maxHeartbeats 4000000 in
set_option maxRecDepth 100000 in
theorem ctM_takeBack (μ : Mm) : CtV PM 0 yX12_takeBack cX12_takeBack 2 none [vR 0] μ (fun m => m = mcp μ 17 20 0 0 37) := by
  refine ct_intro [some (vR 0), none] RX12 (by decide) rfl XM rfl (Nat.le_of_ble_eq_true rfl) (fun K hO => ?_)
  have lp : ∀ (c : Nat) (k : Nat) (m : Mm), (k + c = 37) → (m = mcp μ 17 20 0 0 k) → AW K 2 [some (vR 0), some (vI ((k : Nat) : Int))] [] m := by
    intro c
    induction c with
    | zero =>
      intro k m hk hm
      refine aw_iload_n hO dX12_takeBack_2 rfl rfl ?_
      refine aw_bipush hO dX12_takeBack_3 rfl (by decide) (by decide) ?_
      refine aw_icmp_ge (tgt := 26) hO dX12_takeBack_5 rfl rfl (inRn (by omega)) (inRlit _) (fun c5 => ?_) (fun c5 => ?_)
      · refine aw_vret hO dX12_takeBack_26 ?_
        exact ⟨rfl, by rw [hm, show k = 37 by omega]⟩
      · exact absurd c5 (by omega)
    | succ c ih =>
      intro k m hk hm
      refine aw_iload_n hO dX12_takeBack_2 rfl rfl ?_
      refine aw_bipush hO dX12_takeBack_3 rfl (by decide) (by decide) ?_
      refine aw_icmp_ge (tgt := 26) hO dX12_takeBack_5 rfl rfl (inRn (by omega)) (inRlit _) (fun c5 => ?_) (fun c5 => ?_)
      · exact absurd c5 (by omega)
      · refine aw_aload_n hO dX12_takeBack_8 rfl rfl ?_
        refine gM_now hO dX12_takeBack_9 rfl ?_
        refine aw_iload_n hO dX12_takeBack_12 rfl rfl ?_
        refine aw_aload_n hO dX12_takeBack_13 rfl rfl ?_
        refine gM_aside hO dX12_takeBack_14 rfl ?_
        refine aw_iload_n hO dX12_takeBack_17 rfl rfl ?_
        refine aw_ialdn (N := 37) (i := k) hO dX12_takeBack_18 rfl (by decide) rfl (by decide) (by omega) (by omega) ?_
        refine aw_cg (show m.1 20 k = μ.1 20 k by rw [hm]; exact mcp_nk (by decide)) ?_
        refine aw_iastn (N := 218) (i := k) hO dX12_takeBack_19 rfl (by decide) rfl (by decide) (by omega) (by omega) ?_
        refine aw_mm (fun μ1 e_μ1 => ?_)
        refine aw_iinc (ls' := [some (vR 0), some (vI (((k : Nat) : Int) + 1))]) hO dX12_takeBack_20 rfl rfl rfl rfl ?_
        refine aw_lsq (ls' := [some (vR 0), some (vI (((k + 1) : Nat) : Int))]) rfl ?_
        refine aw_goto (tgt := 2) hO dX12_takeBack_23 rfl ?_
        refine aw_lsq (ls' := [some (vR 0), some (vI (((k + 1) : Nat) : Int))]) rfl ?_
        exact ih (k + 1) μ1 (by omega) (by rw [e_μ1, hm]; have := @mcp_s μ 17 20 0 0 k; simp only [Nat.zero_add] at this; exact this)
  refine aw_iconst hO dX12_takeBack_0 rfl ?_
  refine aw_istore_n (ls' := [some (vR 0), some (vI 0)]) hO dX12_takeBack_1 rfl (Nat.le_of_ble_eq_true rfl) rfl rfl ?_
  refine aw_lsq (ls' := [some (vR 0), some (vI ((0 : Nat) : Int))]) rfl ?_
  exact lp 37 0 μ rfl (mcp_0 _ _ _ _ _).symm
