/-! ## what the class is asked (4) -/
theorem hasB_1 {a : Int} {p : Nat} : (bAnd (bShr a (p : Int)) 1 = 0) ↔ (hasB a p = false) := by
  obtain ⟨y, hy⟩ : ∃ y : Int32, y = iI (bShr a (p : Int)) := ⟨_, rfl⟩
  have e : bAnd (bShr a (p : Int)) 1 = (y &&& 1).toInt := by rw [hy]; rfl
  have hb : hasB a p = decide ((y &&& 1).toInt = 1) := by unfold hasB; rw [e]
  rw [hb, e]
  cases h : bt y 0 with
  | true => rw [(and1 y).mpr h]; decide
  | false =>
    have : y &&& 1 = 0 := b_ext (fun i hi => by
      rw [b_and, bt_1 i hi, b_0]
      by_cases e : i = 0
      · subst e; rw [h]; rfl
      · simp [e])
    rw [this]; decide
theorem bOr_0' {a : Int} (h : InR a) : bOr a 0 = a := by
  have e : iI a ||| iI 0 = iI a := b_ext (fun i hi => by rw [b_or, show iI 0 = (0 : Int32) from rfl, b_0, Bool.or_false])
  unfold bOr
  rw [e, toInt_iI h]
theorem metO_same {f : Nat → Int} {n : Nat} (hn : n ≤ 6) (h : ∀ p, p < 6 → n ≤ p → f p = 0) : ∀ k, n + k ≤ 6 → metO f (n + k) = metO f n
  | 0, _ => rfl
  | k + 1, hk => by
    rw [← Nat.add_assoc, metO, if_neg (by rw [h (n + k) (by omega) (by omega)]; decide), metO_same hn h k (by omega), bOr_0' (metO_R _ _)]
theorem log_dec : ∀ (c : Fin 7) (b : Fin 2) (t : Fin 32), bAnd ((c.val : Int) + 8 * (b.val : Int) + 16 * (t.val : Int)) 7 = (c.val : Int) ∧ bAnd (bShr ((c.val : Int) + 8 * (b.val : Int) + 16 * (t.val : Int)) 3) 1 = (b.val : Int) ∧ bShr ((c.val : Int) + 8 * (b.val : Int) + 16 * (t.val : Int)) 4 = (t.val : Int) := by decide +kernel
theorem log_d {c b t : Int} (hc : -1 ≤ c ∧ c ≤ 5) (hb : 0 ≤ b ∧ b ≤ 1) (ht : 0 ≤ t ∧ t ≤ 31) : bAnd (c + 1 + 8 * b + 16 * t) 7 - 1 = c ∧ bAnd (bShr (c + 1 + 8 * b + 16 * t) 3) 1 = b ∧ bShr (c + 1 + 8 * b + 16 * t) 4 = t := by
  have h := log_dec ⟨(c + 1).toNat, by omega⟩ ⟨b.toNat, by omega⟩ ⟨t.toNat, by omega⟩
  simp only [Int.toNat_of_nonneg (show 0 ≤ c + 1 by omega), Int.toNat_of_nonneg hb.1, Int.toNat_of_nonneg ht.1] at h
  exact ⟨by omega, h.2.1, h.2.2⟩
theorem dX11_tour_0 : decode cX11_tour 0 = .ok (.aload_n 0, 1) := by decide +kernel
theorem dX11_tour_1 : decode cX11_tour 1 = .ok (.iload_n 1, 1) := by decide +kernel
theorem dX11_tour_2 : decode cX11_tour 2 = .ok (.invokevirtual 280, 3) := by decide +kernel
theorem dX11_tour_5 : decode cX11_tour 5 = .ok (.ifCond .eq 18, 3) := by decide +kernel
theorem dX11_tour_8 : decode cX11_tour 8 = .ok (.iload_n 1, 1) := by decide +kernel
theorem dX11_tour_9 : decode cX11_tour 9 = .ok (.aload_n 0, 1) := by decide +kernel
theorem dX11_tour_10 : decode cX11_tour 10 = .ok (.getfield 48, 3) := by decide +kernel
theorem dX11_tour_13 : decode cX11_tour 13 = .ok (.getfield 158, 3) := by decide +kernel
theorem dX11_tour_16 : decode cX11_tour 16 = .ok (.bipush 7, 2) := by decide +kernel
theorem dX11_tour_18 : decode cX11_tour 18 = .ok (.iaload, 1) := by decide +kernel
theorem dX11_tour_19 : decode cX11_tour 19 = .ok (.iand, 1) := by decide +kernel
theorem dX11_tour_20 : decode cX11_tour 20 = .ok (.ifCond .eq 5, 3) := by decide +kernel
theorem dX11_tour_23 : decode cX11_tour 23 = .ok (.iconst (-1), 1) := by decide +kernel
theorem dX11_tour_24 : decode cX11_tour 24 = .ok (.ireturn, 1) := by decide +kernel
theorem dX11_tour_25 : decode cX11_tour 25 = .ok (.iload_n 2, 1) := by decide +kernel
theorem dX11_tour_26 : decode cX11_tour 26 = .ok (.ifCond .ne 16, 3) := by decide +kernel
theorem dX11_tour_29 : decode cX11_tour 29 = .ok (.aload_n 0, 1) := by decide +kernel
theorem dX11_tour_30 : decode cX11_tour 30 = .ok (.getfield 83, 3) := by decide +kernel
theorem dX11_tour_33 : decode cX11_tour 33 = .ok (.aload_n 0, 1) := by decide +kernel
theorem dX11_tour_34 : decode cX11_tour 34 = .ok (.getfield 48, 3) := by decide +kernel
theorem dX11_tour_37 : decode cX11_tour 37 = .ok (.iload_n 1, 1) := by decide +kernel
theorem dX11_tour_38 : decode cX11_tour 38 = .ok (.invokevirtual 283, 3) := by decide +kernel
theorem dX11_tour_41 : decode cX11_tour 41 = .ok (.ireturn, 1) := by decide +kernel
theorem dX11_tour_42 : decode cX11_tour 42 = .ok (.iload_n 2, 1) := by decide +kernel
theorem dX11_tour_43 : decode cX11_tour 43 = .ok (.iconst 1, 1) := by decide +kernel
theorem dX11_tour_44 : decode cX11_tour 44 = .ok (.if_icmp .ne 18, 3) := by decide +kernel
theorem dX11_tour_47 : decode cX11_tour 47 = .ok (.aload_n 0, 1) := by decide +kernel
theorem dX11_tour_48 : decode cX11_tour 48 = .ok (.getfield 83, 3) := by decide +kernel
theorem dX11_tour_51 : decode cX11_tour 51 = .ok (.aload_n 0, 1) := by decide +kernel
theorem dX11_tour_52 : decode cX11_tour 52 = .ok (.getfield 48, 3) := by decide +kernel
theorem dX11_tour_55 : decode cX11_tour 55 = .ok (.iload_n 1, 1) := by decide +kernel
theorem dX11_tour_56 : decode cX11_tour 56 = .ok (.invokevirtual 286, 3) := by decide +kernel
theorem dX11_tour_59 : decode cX11_tour 59 = .ok (.goto 4, 3) := by decide +kernel
theorem dX11_tour_62 : decode cX11_tour 62 = .ok (.iconst (-1), 1) := by decide +kernel
theorem dX11_tour_63 : decode cX11_tour 63 = .ok (.ireturn, 1) := by decide +kernel
theorem grp_n0 {n v : Int} (h : 1 ≤ v ∧ v ≤ bShl 1 n - 1) : n ≠ 0 := fun e => by
  rw [e] at h
  have h0 : bShl 1 0 - 1 = (0 : Int) := by decide +kernel
  omega
set_option maxHeartbeats 4000000 in
set_option maxRecDepth 100000 in
theorem cP_tour {μ ν : Mm} (h : Rel μ ν) {v u : Int} (hv : InR v) (hu : InR u) : CtI PC 3 yX11_tour cX11_tour 3 (some .int) [vR 0, vI v, vI u] μ (if ν.1 0 25 ≠ 0 ∧ (1 ≤ v ∧ v ≤ bShl 1 (ν.1 0 25) - 1) ∧ bAnd v (ν.1 17 31) = 0 ∧ (0 ≤ u ∧ u ≤ 1) then touM (loF v (fun p => ν.1 15 (4 * p + 3)) (ν.1 0 25).toNat) (hiF v (fun p => ν.1 15 (4 * p + 3)) (ν.1 0 25).toNat) (ν.1 17 29) u else -1) := by
  refine ct_intro [some (vR 0), some (vI v), some (vI u)] RX11 (by decide) rfl XCo rfl (Nat.le_of_ble_eq_true rfl) (fun K hO => ?_)
  obtain ⟨c, hc, hlc1, hlc2, hl3, hl4, hl5⟩ := h.L
  obtain ⟨N, hN, hN1, hN2, hN3⟩ := h.P
  obtain ⟨a, x, ha, hx, ha1, ha2, ha3, ha4⟩ := h.A
  have hnp := h.B.np
  have hnt := h.B.nt
  have hr := h.B.now.rest
  have hN15 := h.N.2.1
  have hev := evb_rng hnp.1 hnp.2
  refine aw_aload_n hO dX11_tour_0 rfl rfl ?_
  refine aw_iload_n hO dX11_tour_1 rfl rfl ?_
  refine aw_callVI (as := [vI v]) (st := []) hO dX11_tour_2 rfl (lw_t4 189 rfl rfl) kX11_isGroup (T := TX11) rfl (by decide) rfl (cP_isGroup h hv) (by decide) rfl rfl rfl (Nat.le_of_ble_eq_true rfl) ?_
  refine aw_ifz_eq (tgt := 23) hO dX11_tour_5 rfl rfl (fun c5 => ?_) (fun c5 => ?_)
  · refine aw_iconst hO dX11_tour_23 rfl ?_
    refine aw_iret hO dX11_tour_24 ?_
    exact rI (by rw [if_neg (fun z => c5 z.2.1)])
  · refine aw_iload_n hO dX11_tour_8 rfl rfl ?_
    refine aw_aload_n hO dX11_tour_9 rfl rfl ?_
    refine gC_X11_48_0 hO dX11_tour_10 rfl ?_
    refine gC_X11_158_27 hO dX11_tour_13 rfl ?_
    refine aw_bipush hO dX11_tour_16 rfl (by decide) (by decide) ?_
    refine aw_ialdn (N := 98) (i := 7) hO dX11_tour_18 rfl (by decide) rfl (by decide) rfl (by decide) ?_
    refine aw_cg h.JR.S.aw ?_
    refine aw_iand hO dX11_tour_19 rfl ?_
    refine aw_if_eq (tgt := 25) hO dX11_tour_20 rfl rfl (bAnd_R _ _) (fun c20 => ?_) (fun c20 => ?_)
    · refine aw_iload_n hO dX11_tour_25 rfl rfl ?_
      refine aw_if_ne (tgt := 42) hO dX11_tour_26 rfl rfl hu (fun c26 => ?_) (fun c26 => ?_)
      · refine aw_iload_n hO dX11_tour_42 rfl rfl ?_
        refine aw_iconst hO dX11_tour_43 rfl ?_
        refine aw_icmp_ne (tgt := 62) hO dX11_tour_44 rfl rfl hu (inRlit _) (fun c44 => ?_) (fun c44 => ?_)
        · refine aw_iconst hO dX11_tour_62 rfl ?_
          refine aw_iret hO dX11_tour_63 ?_
          exact rI (by rw [if_neg (fun z => by have := z.2.2.2; omega)])
        · refine aw_aload_n hO dX11_tour_47 rfl rfl ?_
          refine gC_X11_83_0 hO dX11_tour_48 rfl ?_
          refine aw_aload_n hO dX11_tour_51 rfl rfl ?_
          refine gC_X11_48_0 hO dX11_tour_52 rfl ?_
          refine aw_iload_n hO dX11_tour_55 rfl rfl ?_
          refine aw_callVI (as := [vR 27, vI v]) (st := []) hO dX11_tour_56 rfl (lw_t4 209 rfl rfl) kX6_tourEnd (T := TX6) rfl (by decide) rfl (cJ_tourEnd h.JR (b := v) (grp_some hnp.1 hnp.2 c5.1 c5.2)) (by decide) rfl rfl rfl (Nat.le_of_ble_eq_true rfl) ?_
          refine aw_goto (tgt := 63) hO dX11_tour_59 rfl ?_
          refine aw_iret hO dX11_tour_63 ?_
          exact rI (by rw [if_pos ⟨grp_n0 c5, c5, c20, by omega⟩, c44])
      · refine aw_aload_n hO dX11_tour_29 rfl rfl ?_
        refine gC_X11_83_0 hO dX11_tour_30 rfl ?_
        refine aw_aload_n hO dX11_tour_33 rfl rfl ?_
        refine gC_X11_48_0 hO dX11_tour_34 rfl ?_
        refine aw_iload_n hO dX11_tour_37 rfl rfl ?_
        refine aw_callVI (as := [vR 27, vI v]) (st := []) hO dX11_tour_38 rfl (lw_t4 194 rfl rfl) kX6_tourSteps (T := TX6) rfl (by decide) rfl (cJ_tourSteps h.JR (b := v) (grp_some hnp.1 hnp.2 c5.1 c5.2)) (by decide) rfl rfl rfl (Nat.le_of_ble_eq_true rfl) ?_
        refine aw_iret hO dX11_tour_41 ?_
        exact rI (by rw [if_pos ⟨grp_n0 c5, c5, c20, by omega⟩, c26])
    · refine aw_iconst hO dX11_tour_23 rfl ?_
      refine aw_iret hO dX11_tour_24 ?_
      exact rI (by rw [if_neg (fun z => c20 z.2.2.1)])
theorem dX11_given_0 : decode cX11_given 0 = .ok (.aload_n 0, 1) := by decide +kernel
theorem dX11_given_1 : decode cX11_given 1 = .ok (.iload_n 1, 1) := by decide +kernel
theorem dX11_given_2 : decode cX11_given 2 = .ok (.invokevirtual 280, 3) := by decide +kernel
theorem dX11_given_5 : decode cX11_given 5 = .ok (.ifCond .eq 11, 3) := by decide +kernel
theorem dX11_given_8 : decode cX11_given 8 = .ok (.iload_n 1, 1) := by decide +kernel
theorem dX11_given_9 : decode cX11_given 9 = .ok (.invokestatic 289, 3) := by decide +kernel
theorem dX11_given_12 : decode cX11_given 12 = .ok (.iconst 2, 1) := by decide +kernel
theorem dX11_given_13 : decode cX11_given 13 = .ok (.if_icmp .ge 5, 3) := by decide +kernel
theorem dX11_given_16 : decode cX11_given 16 = .ok (.iconst (-1), 1) := by decide +kernel
theorem dX11_given_17 : decode cX11_given 17 = .ok (.ireturn, 1) := by decide +kernel
theorem dX11_given_18 : decode cX11_given 18 = .ok (.aload_n 0, 1) := by decide +kernel
theorem dX11_given_19 : decode cX11_given 19 = .ok (.getfield 41, 3) := by decide +kernel
theorem dX11_given_22 : decode cX11_given 22 = .ok (.iload_n 2, 1) := by decide +kernel
theorem dX11_given_23 : decode cX11_given 23 = .ok (.invokevirtual 164, 3) := by decide +kernel
theorem dX11_given_26 : decode cX11_given 26 = .ok (.ifCond .eq 23, 3) := by decide +kernel
theorem dX11_given_29 : decode cX11_given 29 = .ok (.iload_n 1, 1) := by decide +kernel
theorem dX11_given_30 : decode cX11_given 30 = .ok (.iload_n 2, 1) := by decide +kernel
theorem dX11_given_31 : decode cX11_given 31 = .ok (.ishr, 1) := by decide +kernel
theorem dX11_given_32 : decode cX11_given 32 = .ok (.iconst 1, 1) := by decide +kernel
theorem dX11_given_33 : decode cX11_given 33 = .ok (.iand, 1) := by decide +kernel
theorem dX11_given_34 : decode cX11_given 34 = .ok (.ifCond .eq 15, 3) := by decide +kernel
theorem dX11_given_37 : decode cX11_given 37 = .ok (.aload_n 0, 1) := by decide +kernel
theorem dX11_given_38 : decode cX11_given 38 = .ok (.getfield 90, 3) := by decide +kernel
theorem dX11_given_41 : decode cX11_given 41 = .ok (.getfield 294, 3) := by decide +kernel
theorem dX11_given_44 : decode cX11_given 44 = .ok (.bipush 10, 2) := by decide +kernel
theorem dX11_given_46 : decode cX11_given 46 = .ok (.if_icmp .ne 5, 3) := by decide +kernel
theorem dX11_given_49 : decode cX11_given 49 = .ok (.iconst (-1), 1) := by decide +kernel
theorem dX11_given_50 : decode cX11_given 50 = .ok (.ireturn, 1) := by decide +kernel
theorem dX11_given_51 : decode cX11_given 51 = .ok (.aload_n 0, 1) := by decide +kernel
theorem dX11_given_52 : decode cX11_given 52 = .ok (.getfield 90, 3) := by decide +kernel
theorem dX11_given_55 : decode cX11_given 55 = .ok (.iload_n 1, 1) := by decide +kernel
theorem dX11_given_56 : decode cX11_given 56 = .ok (.iload_n 2, 1) := by decide +kernel
theorem dX11_given_57 : decode cX11_given 57 = .ok (.iload_n 3, 1) := by decide +kernel
theorem dX11_given_58 : decode cX11_given 58 = .ok (.invokevirtual 297, 3) := by decide +kernel
theorem dX11_given_61 : decode cX11_given 61 = .ok (.aload_n 0, 1) := by decide +kernel
theorem dX11_given_62 : decode cX11_given 62 = .ok (.getfield 90, 3) := by decide +kernel
theorem dX11_given_65 : decode cX11_given 65 = .ok (.getfield 294, 3) := by decide +kernel
theorem dX11_given_68 : decode cX11_given 68 = .ok (.ireturn, 1) := by decide +kernel
set_option maxHeartbeats 4000000 in
set_option maxRecDepth 100000 in
theorem cP_given {μ ν : Mm} (h : Rel μ ν) {s v z : Int} (hs : InR s) (hv : InR v) (hz : z = 0 ∨ z = 1) : CtE PC 3 yX11_given cX11_given 4 (some .int) [vR 0, vI s, vI v, vI z] μ (fun r m => r = (if ν.1 0 25 ≠ 0 ∧ (1 ≤ s ∧ s ≤ bShl 1 (ν.1 0 25) - 1) ∧ 2 ≤ bitC s ∧ (0 ≤ v ∧ v < ν.1 0 25) ∧ hasB s v.toNat = true ∧ ν.1 0 41 ≠ 10 then ν.1 0 41 + 1 else -1) ∧ Rel m (if ν.1 0 25 ≠ 0 ∧ (1 ≤ s ∧ s ≤ bShl 1 (ν.1 0 25) - 1) ∧ 2 ≤ bitC s ∧ (0 ≤ v ∧ v < ν.1 0 25) ∧ hasB s v.toNat = true ∧ ν.1 0 41 ≠ 10 then mst (mst (mst (mst ν 21 (ν.1 0 41).toNat s) 22 (ν.1 0 41).toNat v) 23 (ν.1 0 41).toNat z) 0 41 (ν.1 0 41 + 1) else ν)) := by
  refine ct_intro [some (vR 0), some (vI s), some (vI v), some (vI z)] RX11 (by decide) rfl XCo rfl (Nat.le_of_ble_eq_true rfl) (fun K hO => ?_)
  obtain ⟨c, hc, hlc1, hlc2, hl3, hl4, hl5⟩ := h.L
  obtain ⟨N, hN, hN1, hN2, hN3⟩ := h.P
  obtain ⟨a, x, ha, hx, ha1, ha2, ha3, ha4⟩ := h.A
  have hnp := h.B.np
  have hnt := h.B.nt
  have hr := h.B.now.rest
  have hN15 := h.N.2.1
  have hev := evb_rng hnp.1 hnp.2
  have hN41 := h.G.1.1
  refine aw_aload_n hO dX11_given_0 rfl rfl ?_
  refine aw_iload_n hO dX11_given_1 rfl rfl ?_
  refine aw_callVI (as := [vI s]) (st := []) hO dX11_given_2 rfl (lw_t4 189 rfl rfl) kX11_isGroup (T := TX11) rfl (by decide) rfl (cP_isGroup h hs) (by decide) rfl rfl rfl (Nat.le_of_ble_eq_true rfl) ?_
  refine aw_ifz_eq (tgt := 16) hO dX11_given_5 rfl rfl (fun c5 => ?_) (fun c5 => ?_)
  · refine aw_iconst hO dX11_given_16 rfl ?_
    refine aw_iret hO dX11_given_17 ?_
    exact ⟨_, rfl, by rw [if_neg (fun q => c5 q.2.1)], by rw [if_neg (fun q => c5 q.2.1)]; exact h⟩
  · refine aw_iload_n hO dX11_given_8 rfl rfl ?_
    refine aw_callSI (as := [vI s]) (st := []) hO dX11_given_9 rfl (lw_t4 217 rfl rfl) kJ6_bitCount_0f7a4 (ct_bitCount XCo μ s) (by decide) rfl rfl rfl (Nat.le_of_ble_eq_true rfl) ?_
    have hbc := bitC_rng (by omega : 0 ≤ s) (by omega : s ≤ 63)
    refine aw_iconst hO dX11_given_12 rfl ?_
    refine aw_icmp_ge (tgt := 18) hO dX11_given_13 rfl rfl ⟨by omega, by omega⟩ (inRlit _) (fun c13 => ?_) (fun c13 => ?_)
    · refine aw_aload_n hO dX11_given_18 rfl rfl ?_
      refine gC_X11_41_0 hO dX11_given_19 rfl ?_
      refine aw_iload_n hO dX11_given_22 rfl rfl ?_
      refine aw_callVI (as := [vI v]) (st := []) hO dX11_given_23 rfl (lw_t3 170 rfl rfl) kX9_hasPerson (T := TX9) rfl (by decide) rfl (cJ_hasPerson h.JR.z hv) (by decide) rfl rfl rfl (Nat.le_of_ble_eq_true rfl) ?_
      refine aw_ifz_eq (tgt := 49) hO dX11_given_26 rfl rfl (fun c26 => ?_) (fun c26 => ?_)
      · refine aw_iconst hO dX11_given_49 rfl ?_
        refine aw_iret hO dX11_given_50 ?_
        exact ⟨_, rfl, by rw [if_neg (fun q => c26 q.2.2.2.1)], by rw [if_neg (fun q => c26 q.2.2.2.1)]; exact h⟩
      · obtain ⟨p, hpe⟩ := Int.eq_ofNat_of_zero_le c26.1
        subst hpe
        refine aw_iload_n hO dX11_given_29 rfl rfl ?_
        refine aw_iload_n hO dX11_given_30 rfl rfl ?_
        refine aw_ishr hO dX11_given_31 rfl ?_
        refine aw_iconst hO dX11_given_32 rfl ?_
        refine aw_iand hO dX11_given_33 rfl ?_
        refine aw_if_eq (tgt := 49) hO dX11_given_34 rfl rfl (bAnd_R _ _) (fun c34 => ?_) (fun c34 => ?_)
        · refine aw_iconst hO dX11_given_49 rfl ?_
          refine aw_iret hO dX11_given_50 ?_
          exact ⟨_, rfl, by rw [if_neg (fun q => by have h1 := q.2.2.2.2.1; rw [Int.toNat_natCast, hasB_1.mp c34] at h1; cases h1)], by rw [if_neg (fun q => by have h1 := q.2.2.2.2.1; rw [Int.toNat_natCast, hasB_1.mp c34] at h1; cases h1)]; exact h⟩
        · refine aw_aload_n hO dX11_given_37 rfl rfl ?_
          refine gC_X11_90_0 hO dX11_given_38 rfl ?_
          refine gC_X11_294_81 hO dX11_given_41 rfl ?_
          refine aw_cg h.G.2.1 ?_
          refine aw_bipush hO dX11_given_44 rfl (by decide) (by decide) ?_
          refine aw_icmp_ne (tgt := 51) hO dX11_given_46 rfl rfl ⟨by omega, by omega⟩ (inRlit _) (fun c46 => ?_) (fun c46 => ?_)
          · refine aw_aload_n hO dX11_given_51 rfl rfl ?_
            refine gC_X11_90_0 hO dX11_given_52 rfl ?_
            refine aw_iload_n hO dX11_given_55 rfl rfl ?_
            refine aw_iload_n hO dX11_given_56 rfl rfl ?_
            refine aw_iload_n hO dX11_given_57 rfl rfl ?_
            refine aw_callVV (as := [vI s, vI ((p : Nat) : Int), vI z]) (st := []) hO dX11_given_58 rfl (lw_t4 223 rfl rfl) kX2_add (T := TX2) rfl (by decide) rfl (cJ_addG h.JR.z (h.G.2.2 (grp_n0 c5)) (s := s) (z := z) (one := p) (grp_lt hnp.1 hnp.2 c5.1 c5.2) (by omega) hz) (by decide) rfl rfl rfl (Nat.le_of_ble_eq_true rfl) (fun μ2 hq3 => ?_)
            obtain ⟨hF, hFT2, h81⟩ := hq3
            refine aw_aload_n hO dX11_given_61 rfl rfl ?_
            refine gC_X11_90_0 hO dX11_given_62 rfl ?_
            refine gC_X11_294_81 hO dX11_given_65 rfl ?_
            refine aw_cg (show μ2.1 81 5 = ν.1 0 41 + 1 by rw [h81, h.G.2.1]) ?_
            refine aw_iret hO dX11_given_68 ?_
            exact ⟨_, rfl, by rw [if_pos ⟨grp_n0 c5, c5, c13, c26, by rw [Int.toNat_natCast]; exact (Bool.not_eq_false _).mp (fun e => c34 (hasB_1.mpr e)), c46⟩], by rw [if_pos ⟨grp_n0 c5, c5, c13, c26, by rw [Int.toNat_natCast]; exact (Bool.not_eq_false _).mp (fun e => c34 (hasB_1.mpr e)), c46⟩]; exact h.given (grp_n0 c5) c46 (by omega) (by omega) hz hF hFT2 h81⟩
          · refine aw_iconst hO dX11_given_49 rfl ?_
            refine aw_iret hO dX11_given_50 ?_
            exact ⟨_, rfl, by rw [if_neg (fun q => q.2.2.2.2.2 c46)], by rw [if_neg (fun q => q.2.2.2.2.2 c46)]; exact h⟩
    · refine aw_iconst hO dX11_given_16 rfl ?_
      refine aw_iret hO dX11_given_17 ?_
      exact ⟨_, rfl, by rw [if_neg (fun q => by have := q.2.2.1; omega)], by rw [if_neg (fun q => by have := q.2.2.1; omega)]; exact h⟩
theorem dX11_log_0 : decode cX11_log 0 = .ok (.iload_n 1, 1) := by decide +kernel
theorem dX11_log_1 : decode cX11_log 1 = .ok (.ifCond .lt 14, 3) := by decide +kernel
theorem dX11_log_4 : decode cX11_log 4 = .ok (.iload_n 1, 1) := by decide +kernel
theorem dX11_log_5 : decode cX11_log 5 = .ok (.aload_n 0, 1) := by decide +kernel
theorem dX11_log_6 : decode cX11_log 6 = .ok (.getfield 48, 3) := by decide +kernel
theorem dX11_log_9 : decode cX11_log 9 = .ok (.invokevirtual 255, 3) := by decide +kernel
theorem dX11_log_12 : decode cX11_log 12 = .ok (.if_icmp .lt 7, 3) := by decide +kernel
theorem dX11_log_15 : decode cX11_log 15 = .ok (.ldc_w 258, 3) := by decide +kernel
theorem dX11_log_18 : decode cX11_log 18 = .ok (.ireturn, 1) := by decide +kernel
theorem dX11_log_19 : decode cX11_log 19 = .ok (.iload_n 2, 1) := by decide +kernel
theorem dX11_log_20 : decode cX11_log 20 = .ok (.tableswitch 55 0 2 #[28, 37, 46], 28) := by decide +kernel
theorem dX11_log_48 : decode cX11_log 48 = .ok (.aload_n 0, 1) := by decide +kernel
theorem dX11_log_49 : decode cX11_log 49 = .ok (.getfield 48, 3) := by decide +kernel
theorem dX11_log_52 : decode cX11_log 52 = .ok (.iload_n 1, 1) := by decide +kernel
theorem dX11_log_53 : decode cX11_log 53 = .ok (.invokevirtual 259, 3) := by decide +kernel
theorem dX11_log_56 : decode cX11_log 56 = .ok (.ireturn, 1) := by decide +kernel
theorem dX11_log_57 : decode cX11_log 57 = .ok (.aload_n 0, 1) := by decide +kernel
theorem dX11_log_58 : decode cX11_log 58 = .ok (.getfield 48, 3) := by decide +kernel
theorem dX11_log_61 : decode cX11_log 61 = .ok (.iload_n 1, 1) := by decide +kernel
theorem dX11_log_62 : decode cX11_log 62 = .ok (.invokevirtual 262, 3) := by decide +kernel
theorem dX11_log_65 : decode cX11_log 65 = .ok (.ireturn, 1) := by decide +kernel
theorem dX11_log_66 : decode cX11_log 66 = .ok (.aload_n 0, 1) := by decide +kernel
theorem dX11_log_67 : decode cX11_log 67 = .ok (.getfield 48, 3) := by decide +kernel
theorem dX11_log_70 : decode cX11_log 70 = .ok (.iload_n 1, 1) := by decide +kernel
theorem dX11_log_71 : decode cX11_log 71 = .ok (.invokevirtual 265, 3) := by decide +kernel
theorem dX11_log_74 : decode cX11_log 74 = .ok (.ireturn, 1) := by decide +kernel
theorem dX11_log_75 : decode cX11_log 75 = .ok (.ldc_w 258, 3) := by decide +kernel
theorem dX11_log_78 : decode cX11_log 78 = .ok (.ireturn, 1) := by decide +kernel
set_option maxHeartbeats 4000000 in
set_option maxRecDepth 100000 in
theorem cP_log {μ ν : Mm} (h : Rel μ ν) {u v : Int} (hu : InR u) (hv : InR v) : CtI PC 3 yX11_log cX11_log 3 (some .int) [vR 0, vI u, vI v] μ (if 0 ≤ u ∧ u ≤ ((ν.1 17 37) - 1) then (if 0 ≤ v ∧ v ≤ 2 then (ν.1 17 ((((38 + (3 * (((ν.1 17 37) - 1) - u))) + v)).toNat)) else (-1000000)) else (-1000000)) := by
  refine ct_intro [some (vR 0), some (vI u), some (vI v)] RX11 (by decide) rfl XCo rfl (Nat.le_of_ble_eq_true rfl) (fun K hO => ?_)
  obtain ⟨c, hc, hlc1, hlc2, hl3, hl4, hl5⟩ := h.L
  obtain ⟨N, hN, hN1, hN2, hN3⟩ := h.P
  obtain ⟨a, x, ha, hx, ha1, ha2, ha3, ha4⟩ := h.A
  have hnp := h.B.np
  have hnt := h.B.nt
  have hr := h.B.now.rest
  have hN15 := h.N.2.1
  obtain ⟨L, hL8, hL6, hL37, hLr⟩ := h.S.2.1
  have hL2 : L ≤ 2000 := by have := h.S.2.2.2.1; have := h.S.1.yr; omega
  refine aw_iload_n hO dX11_log_0 rfl rfl ?_
  refine aw_if_lt (tgt := 15) hO dX11_log_1 rfl rfl hu (fun c1 => ?_) (fun c1 => ?_)
  · refine aw_ldcw (a := (-1000000)) hO dX11_log_15 rfl (lw_t4 125 rfl rfl) ?_
    refine aw_iret hO dX11_log_18 ?_
    exact rI (by rw [if_neg (by omega)])
  · refine aw_iload_n hO dX11_log_4 rfl rfl ?_
    refine aw_aload_n hO dX11_log_5 rfl rfl ?_
    refine gC_X11_48_0 hO dX11_log_6 rfl ?_
    refine aw_callVI (as := []) (st := [vI u]) hO dX11_log_9 rfl (lw_t4 121 rfl rfl) kX7_logLength (T := TX7) rfl (by decide) rfl (ctC_7_logLength μ sob27 hL8 hL2) (by decide) rfl rfl rfl (Nat.le_of_ble_eq_true rfl) ?_
    refine aw_icmp_lt (tgt := 19) hO dX11_log_12 rfl rfl hu (inRn (by omega)) (fun c12 => ?_) (fun c12 => ?_)
    · obtain ⟨i, hie⟩ := Int.eq_ofNat_of_zero_le c1
      subst hie
      obtain ⟨hd1, hd2⟩ := hLr (min L 60 - 1 - i) (by omega)
      have hdd := log_d hd1.1 hd1.2.1 hd1.2.2
      rw [← hd2, show L - min L 60 + (min L 60 - 1 - i) = L - 1 - i by omega] at hdd
      have hix : ∀ k : Nat, (38 + 3 * (ν.1 17 37 - 1 - (i : Int)) + (k : Int)).toNat = 38 + 3 * (min L 60 - 1 - i) + k := fun k => by omega
      refine aw_iload_n hO dX11_log_19 rfl rfl ?_
      by_cases hc0 : v = 0
      · refine aw_tableIn (tgt := 48) hO dX11_log_20 hv (by omega) (by omega) (by rw [hc0]; rfl) rfl ?_
        refine aw_aload_n hO dX11_log_48 rfl rfl ?_
        refine gC_X11_48_0 hO dX11_log_49 rfl ?_
        refine aw_iload_n hO dX11_log_52 rfl rfl ?_
        refine aw_callVI (as := [vI ((i : Nat) : Int)]) (st := []) hO dX11_log_53 rfl (lw_t4 126 rfl rfl) kX7_loggedMayor (T := TX7) rfl (by decide) rfl (ctC_7_loggedMayor μ sob27 (L := L) (i := i) hL8 hL2 (by omega)) (by decide) rfl rfl rfl (Nat.le_of_ble_eq_true rfl) ?_
        refine aw_iret hO dX11_log_56 ?_
        exact rI (by rw [if_pos (by omega), if_pos (by omega), hc0]; rw [hdd.1]; exact congrArg _ (by omega))
      by_cases hc1 : v = 1
      · refine aw_tableIn (tgt := 57) hO dX11_log_20 hv (by omega) (by omega) (by rw [hc1]; rfl) rfl ?_
        refine aw_aload_n hO dX11_log_57 rfl rfl ?_
        refine gC_X11_48_0 hO dX11_log_58 rfl ?_
        refine aw_iload_n hO dX11_log_61 rfl rfl ?_
        refine aw_callVI (as := [vI ((i : Nat) : Int)]) (st := []) hO dX11_log_62 rfl (lw_t4 137 rfl rfl) kX7_loggedRest (T := TX7) rfl (by decide) rfl (ctC_7_loggedRest μ sob27 (L := L) (i := i) hL8 hL2 (by omega)) (by decide) rfl rfl rfl (Nat.le_of_ble_eq_true rfl) ?_
        refine aw_iret hO dX11_log_65 ?_
        exact rI (by rw [if_pos (by omega), if_pos (by omega), hc1]; rw [hdd.2.1]; exact congrArg _ (by omega))
      by_cases hc2 : v = 2
      · refine aw_tableIn (tgt := 66) hO dX11_log_20 hv (by omega) (by omega) (by rw [hc2]; rfl) rfl ?_
        refine aw_aload_n hO dX11_log_66 rfl rfl ?_
        refine gC_X11_48_0 hO dX11_log_67 rfl ?_
        refine aw_iload_n hO dX11_log_70 rfl rfl ?_
        refine aw_callVI (as := [vI ((i : Nat) : Int)]) (st := []) hO dX11_log_71 rfl (lw_t4 141 rfl rfl) kX7_loggedTroubles (T := TX7) rfl (by decide) rfl (ctC_7_loggedTroubles μ sob27 (L := L) (i := i) hL8 hL2 (by omega)) (by decide) rfl rfl rfl (Nat.le_of_ble_eq_true rfl) ?_
        refine aw_iret hO dX11_log_74 ?_
        exact rI (by rw [if_pos (by omega), if_pos (by omega), hc2]; rw [hdd.2.2]; exact congrArg _ (by omega))
      refine aw_tableOut (tgt := 75) hO dX11_log_20 hv (by omega) rfl ?_
      refine aw_ldcw (a := (-1000000)) hO dX11_log_75 rfl (lw_t4 125 rfl rfl) ?_
      refine aw_iret hO dX11_log_78 ?_
      exact rI (by rw [if_pos (by omega), if_neg (by omega)])
    · refine aw_ldcw (a := (-1000000)) hO dX11_log_15 rfl (lw_t4 125 rfl rfl) ?_
      refine aw_iret hO dX11_log_18 ?_
      exact rI (by rw [if_neg (by omega)])
