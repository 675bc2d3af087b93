/-! ## what the class is told (2) -/
theorem dX11_law_0 : decode cX11_law 0 = .ok (.iload_n 1, 1) := by decide +kernel
theorem dX11_law_1 : decode cX11_law 1 = .ok (.iconst (-1), 1) := by decide +kernel
theorem dX11_law_2 : decode cX11_law 2 = .ok (.if_icmp .eq 17, 3) := by decide +kernel
theorem dX11_law_5 : decode cX11_law 5 = .ok (.iload_n 1, 1) := by decide +kernel
theorem dX11_law_6 : decode cX11_law 6 = .ok (.ifCond .lt 11, 3) := by decide +kernel
theorem dX11_law_9 : decode cX11_law 9 = .ok (.iload_n 1, 1) := by decide +kernel
theorem dX11_law_10 : decode cX11_law 10 = .ok (.aload_n 0, 1) := by decide +kernel
theorem dX11_law_11 : decode cX11_law 11 = .ok (.getfield 98, 3) := by decide +kernel
theorem dX11_law_14 : decode cX11_law 14 = .ok (.if_icmp .lt 5, 3) := by decide +kernel
theorem dX11_law_17 : decode cX11_law 17 = .ok (.iconst 0, 1) := by decide +kernel
theorem dX11_law_18 : decode cX11_law 18 = .ok (.ireturn, 1) := by decide +kernel
theorem dX11_law_19 : decode cX11_law 19 = .ok (.aload_n 0, 1) := by decide +kernel
theorem dX11_law_20 : decode cX11_law 20 = .ok (.iload_n 1, 1) := by decide +kernel
theorem dX11_law_21 : decode cX11_law 21 = .ok (.putfield 102, 3) := by decide +kernel
theorem dX11_law_24 : decode cX11_law 24 = .ok (.aload_n 0, 1) := by decide +kernel
theorem dX11_law_25 : decode cX11_law 25 = .ok (.getfield 67, 3) := by decide +kernel
theorem dX11_law_28 : decode cX11_law 28 = .ok (.iload_n 1, 1) := by decide +kernel
theorem dX11_law_29 : decode cX11_law 29 = .ok (.iconst (-1), 1) := by decide +kernel
theorem dX11_law_30 : decode cX11_law 30 = .ok (.if_icmp .ne 7, 3) := by decide +kernel
theorem dX11_law_33 : decode cX11_law 33 = .ok (.aconst_null, 1) := by decide +kernel
theorem dX11_law_34 : decode cX11_law 34 = .ok (.goto 9, 3) := by decide +kernel
theorem dX11_law_37 : decode cX11_law 37 = .ok (.aload_n 0, 1) := by decide +kernel
theorem dX11_law_38 : decode cX11_law 38 = .ok (.getfield 34, 3) := by decide +kernel
theorem dX11_law_41 : decode cX11_law 41 = .ok (.iload_n 1, 1) := by decide +kernel
theorem dX11_law_42 : decode cX11_law 42 = .ok (.aaload, 1) := by decide +kernel
theorem dX11_law_43 : decode cX11_law 43 = .ok (.putfield 205, 3) := by decide +kernel
theorem dX11_law_46 : decode cX11_law 46 = .ok (.iconst 1, 1) := by decide +kernel
theorem dX11_law_47 : decode cX11_law 47 = .ok (.ireturn, 1) := by decide +kernel
set_option maxRecDepth 100000 in
theorem pC_X11_102_0 {Q : Option AV → Mm → Prop} {K : KT} {cc : ByteArray} {nL d : Nat} {ret : Option FieldType} {pc n : Nat} {ls : List (Option AV)} {st : List AV} {μ : Mm} {a : Int} (hO : KOk PC Q K cc RX11 nL d ret) (hd : decode cc pc = .ok (.putfield 102, 3)) (hn : pc + 3 = n) (kk : AW K n ls st (mst μ 0 14 a)) : AW K pc ls (vI a :: vR 0 :: st) μ := aw_put (f := 14) hO hd hn okX11 tyX11_ok nmX11 (by decide) (lw_t2 59 rfl rfl) rfl rfl rfl (by decide) rfl rfl kk
set_option maxRecDepth 100000 in
theorem gC_X11_67_0 {Q : Option AV → Mm → Prop} {K : KT} {cc : ByteArray} {nL d : Nat} {ret : Option FieldType} {pc n : Nat} {ls : List (Option AV)} {st : List AV} {μ : Mm} (hO : KOk PC Q K cc RX11 nL d ret) (hd : decode cc pc = .ok (.getfield 67, 3)) (hn : pc + 3 = n) (kk : AW K n ls (vR 73 :: st) μ) : AW K pc ls (vR 0 :: st) μ := aw_get (f := 8) hO hd hn okX11 (by decide) (lw_t2 53 rfl rfl) (by decide) rfl rfl rfl kk
set_option maxRecDepth 100000 in
theorem gC_X11_34_0 {Q : Option AV → Mm → Prop} {K : KT} {cc : ByteArray} {nL d : Nat} {ret : Option FieldType} {pc n : Nat} {ls : List (Option AV)} {st : List AV} {μ : Mm} (hO : KOk PC Q K cc RX11 nL d ret) (hd : decode cc pc = .ok (.getfield 34, 3)) (hn : pc + 3 = n) (kk : AW K n ls (vR 12 :: st) μ) : AW K pc ls (vR 0 :: st) μ := aw_get (f := 3) hO hd hn okX11 (by decide) (lw_t2 48 rfl rfl) (by decide) rfl rfl rfl kk
set_option maxHeartbeats 4000000 in
set_option maxRecDepth 100000 in
theorem cP_law {μ ν : Mm} (h : Rel μ ν) {v : Int} (hv : InR v) : CtE PC 1 yX11_law cX11_law 2 (some .boolean) [vR 0, vI v] μ (fun r m => r = (if (-1) ≤ v ∧ v ≤ ((ν.1 0 13) - 1) then 1 else 0) ∧ Rel m (if (-1) ≤ v ∧ v ≤ ((ν.1 0 13) - 1) then (mst ν 0 29 v) else ν)) := by
  refine ct_intro [some (vR 0), some (vI v)] RX11 (by decide) rfl XCo rfl (Nat.le_of_ble_eq_true rfl) (fun K hO => ?_)
  obtain ⟨c, hc, hlc1, hlc2, hl3, hl4, hl5⟩ := h.L
  obtain ⟨N, hN, hN1, hN2, hN3⟩ := h.P
  obtain ⟨a, x, ha, hx, ha1, ha2, ha3, ha4⟩ := h.A
  have hnp := h.B.np
  have hnt := h.B.nt
  have hr := h.B.now.rest
  have hN15 := h.N.2.1
  refine aw_iload_n hO dX11_law_0 rfl rfl ?_
  refine aw_iconst hO dX11_law_1 rfl ?_
  refine aw_icmp_eq (tgt := 19) hO dX11_law_2 rfl rfl hv (inRlit _) (fun c2 => ?_) (fun c2 => ?_)
  · refine aw_aload_n hO dX11_law_19 rfl rfl ?_
    refine aw_iload_n hO dX11_law_20 rfl rfl ?_
    refine pC_X11_102_0 hO dX11_law_21 rfl ?_
    refine aw_mm (fun μ1 e_μ1 => ?_)
    refine aw_aload_n hO dX11_law_24 rfl rfl ?_
    refine gC_X11_67_0 hO dX11_law_25 rfl ?_
    refine aw_iload_n hO dX11_law_28 rfl rfl ?_
    refine aw_iconst hO dX11_law_29 rfl ?_
    refine aw_icmp_ne (tgt := 37) hO dX11_law_30 rfl rfl hv (inRlit _) (fun c30 => ?_) (fun c30 => ?_)
    · obtain ⟨p, hpe⟩ := Int.eq_ofNat_of_zero_le (show 0 ≤ v by omega)
      subst hpe
      refine aw_aload_n hO dX11_law_37 rfl rfl ?_
      refine gC_X11_34_0 hO dX11_law_38 rfl ?_
      refine aw_iload_n hO dX11_law_41 rfl rfl ?_
      refine aw_aald (i := p) hO dX11_law_42 rfl (by decide) rfl (by decide) rfl (by omega) ?_
      refine pC_rulQ hO dX11_law_43 rfl ?_
      refine aw_mm (fun μ2 e_μ2 => ?_)
      refine aw_iconst hO dX11_law_46 rfl ?_
      refine aw_zret hO dX11_law_47 (Or.inr rfl) ?_
      exact ⟨_, rfl, by rw [if_pos (by omega)], by rw [if_pos (by omega)]; exact h.law hlc2 (Or.inr ⟨p, by omega, rfl, by rw [e_μ2]; rfl⟩) (by rw [e_μ2, e_μ1]; rfl) rfl⟩
    · refine aw_null hO dX11_law_33 rfl ?_
      refine aw_goto (tgt := 43) hO dX11_law_34 rfl ?_
      refine pC_rulQ hO dX11_law_43 rfl ?_
      refine aw_mm (fun μ3 e_μ3 => ?_)
      refine aw_iconst hO dX11_law_46 rfl ?_
      refine aw_zret hO dX11_law_47 (Or.inr rfl) ?_
      exact ⟨_, rfl, by rw [if_pos (by omega)], by rw [if_pos (by omega)]; exact h.law hlc2 (Or.inl ⟨by omega, by rw [e_μ3]; rfl⟩) (by rw [e_μ3, e_μ1]; rfl) rfl⟩
  · refine aw_iload_n hO dX11_law_5 rfl rfl ?_
    refine aw_if_lt (tgt := 17) hO dX11_law_6 rfl rfl hv (fun c6 => ?_) (fun c6 => ?_)
    · refine aw_iconst hO dX11_law_17 rfl ?_
      refine aw_zret hO dX11_law_18 (Or.inl rfl) ?_
      exact ⟨_, rfl, by rw [if_neg (by omega)], by rw [if_neg (by omega)]; exact h⟩
    · refine aw_iload_n hO dX11_law_9 rfl rfl ?_
      refine aw_aload_n hO dX11_law_10 rfl rfl ?_
      refine gC_X11_98_0 hO dX11_law_11 rfl ?_
      refine aw_cg hlc1 ?_
      refine aw_icmp_lt (tgt := 19) hO dX11_law_14 rfl rfl hv (inRn (by omega)) (fun c14 => ?_) (fun c14 => ?_)
      · refine aw_aload_n hO dX11_law_19 rfl rfl ?_
        refine aw_iload_n hO dX11_law_20 rfl rfl ?_
        refine pC_X11_102_0 hO dX11_law_21 rfl ?_
        refine aw_mm (fun μ4 e_μ4 => ?_)
        refine aw_aload_n hO dX11_law_24 rfl rfl ?_
        refine gC_X11_67_0 hO dX11_law_25 rfl ?_
        refine aw_iload_n hO dX11_law_28 rfl rfl ?_
        refine aw_iconst hO dX11_law_29 rfl ?_
        refine aw_icmp_ne (tgt := 37) hO dX11_law_30 rfl rfl hv (inRlit _) (fun c30 => ?_) (fun c30 => ?_)
        · obtain ⟨p, hpe⟩ := Int.eq_ofNat_of_zero_le (show 0 ≤ v by omega)
          subst hpe
          refine aw_aload_n hO dX11_law_37 rfl rfl ?_
          refine gC_X11_34_0 hO dX11_law_38 rfl ?_
          refine aw_iload_n hO dX11_law_41 rfl rfl ?_
          refine aw_aald (i := p) hO dX11_law_42 rfl (by decide) rfl (by decide) rfl (by omega) ?_
          refine pC_rulQ hO dX11_law_43 rfl ?_
          refine aw_mm (fun μ5 e_μ5 => ?_)
          refine aw_iconst hO dX11_law_46 rfl ?_
          refine aw_zret hO dX11_law_47 (Or.inr rfl) ?_
          exact ⟨_, rfl, by rw [if_pos (by omega)], by rw [if_pos (by omega)]; exact h.law hlc2 (Or.inr ⟨p, by omega, rfl, by rw [e_μ5]; rfl⟩) (by rw [e_μ5, e_μ4]; rfl) rfl⟩
        · refine aw_null hO dX11_law_33 rfl ?_
          refine aw_goto (tgt := 43) hO dX11_law_34 rfl ?_
          refine pC_rulQ hO dX11_law_43 rfl ?_
          refine aw_mm (fun μ6 e_μ6 => ?_)
          refine aw_iconst hO dX11_law_46 rfl ?_
          refine aw_zret hO dX11_law_47 (Or.inr rfl) ?_
          exact ⟨_, rfl, by rw [if_pos (by omega)], by rw [if_pos (by omega)]; exact h.law hlc2 (Or.inl ⟨by omega, by rw [e_μ6]; rfl⟩) (by rw [e_μ6, e_μ4]; rfl) rfl⟩
      · refine aw_iconst hO dX11_law_17 rfl ?_
        refine aw_zret hO dX11_law_18 (Or.inl rfl) ?_
        exact ⟨_, rfl, by rw [if_neg (by omega)], by rw [if_neg (by omega)]; exact h⟩
theorem dX11_fate_0 : decode cX11_fate 0 = .ok (.iload_n 1, 1) := by decide +kernel
theorem dX11_fate_1 : decode cX11_fate 1 = .ok (.ifCond .lt 17, 3) := by decide +kernel
theorem dX11_fate_4 : decode cX11_fate 4 = .ok (.iload_n 1, 1) := by decide +kernel
theorem dX11_fate_5 : decode cX11_fate 5 = .ok (.bipush 9, 2) := by decide +kernel
theorem dX11_fate_7 : decode cX11_fate 7 = .ok (.if_icmp .gt 11, 3) := by decide +kernel
theorem dX11_fate_10 : decode cX11_fate 10 = .ok (.iload_n 1, 1) := by decide +kernel
theorem dX11_fate_11 : decode cX11_fate 11 = .ok (.aload_n 0, 1) := by decide +kernel
theorem dX11_fate_12 : decode cX11_fate 12 = .ok (.getfield 105, 3) := by decide +kernel
theorem dX11_fate_15 : decode cX11_fate 15 = .ok (.if_icmp .ne 5, 3) := by decide +kernel
theorem dX11_fate_18 : decode cX11_fate 18 = .ok (.iconst 0, 1) := by decide +kernel
theorem dX11_fate_19 : decode cX11_fate 19 = .ok (.ireturn, 1) := by decide +kernel
theorem dX11_fate_20 : decode cX11_fate 20 = .ok (.aload_n 0, 1) := by decide +kernel
theorem dX11_fate_21 : decode cX11_fate 21 = .ok (.iload_n 1, 1) := by decide +kernel
theorem dX11_fate_22 : decode cX11_fate 22 = .ok (.putfield 105, 3) := by decide +kernel
theorem dX11_fate_25 : decode cX11_fate 25 = .ok (.iconst 1, 1) := by decide +kernel
theorem dX11_fate_26 : decode cX11_fate 26 = .ok (.ireturn, 1) := by decide +kernel
set_option maxRecDepth 100000 in
theorem pC_X11_105_0 {Q : Option AV → Mm → Prop} {K : KT} {cc : ByteArray} {nL d : Nat} {ret : Option FieldType} {pc n : Nat} {ls : List (Option AV)} {st : List AV} {μ : Mm} {a : Int} (hO : KOk PC Q K cc RX11 nL d ret) (hd : decode cc pc = .ok (.putfield 105, 3)) (hn : pc + 3 = n) (kk : AW K n ls st (mst μ 0 15 a)) : AW K pc ls (vI a :: vR 0 :: st) μ := aw_put (f := 15) hO hd hn okX11 tyX11_ok nmX11 (by decide) (lw_t2 60 rfl rfl) rfl rfl rfl (by decide) rfl rfl kk
set_option maxHeartbeats 4000000 in
set_option maxRecDepth 100000 in
theorem cP_fate {μ ν : Mm} (h : Rel μ ν) {v : Int} (hv : InR v) : CtE PC 1 yX11_fate cX11_fate 2 (some .boolean) [vR 0, vI v] μ (fun r m => r = (if 0 ≤ v ∧ v ≤ 9 then (if v ≠ (ν.1 0 30) then 1 else 0) else 0) ∧ Rel m (if 0 ≤ v ∧ v ≤ 9 then (if v ≠ (ν.1 0 30) then (mst ν 0 30 v) else ν) else ν)) := by
  refine ct_intro [some (vR 0), some (vI v)] RX11 (by decide) rfl XCo rfl (Nat.le_of_ble_eq_true rfl) (fun K hO => ?_)
  obtain ⟨c, hc, hlc1, hlc2, hl3, hl4, hl5⟩ := h.L
  obtain ⟨N, hN, hN1, hN2, hN3⟩ := h.P
  obtain ⟨a, x, ha, hx, ha1, ha2, ha3, ha4⟩ := h.A
  have hnp := h.B.np
  have hnt := h.B.nt
  have hr := h.B.now.rest
  have hN15 := h.N.2.1
  refine aw_iload_n hO dX11_fate_0 rfl rfl ?_
  refine aw_if_lt (tgt := 18) hO dX11_fate_1 rfl rfl hv (fun c1 => ?_) (fun c1 => ?_)
  · refine aw_iconst hO dX11_fate_18 rfl ?_
    refine aw_zret hO dX11_fate_19 (Or.inl rfl) ?_
    exact ⟨_, rfl, by first | rw [if_neg (by omega)] | rw [if_pos (by omega), if_neg (by omega)], by first | rw [if_neg (by omega)]; exact h | rw [if_pos (by omega), if_neg (by omega)]; exact h⟩
  · refine aw_iload_n hO dX11_fate_4 rfl rfl ?_
    refine aw_bipush hO dX11_fate_5 rfl (by decide) (by decide) ?_
    refine aw_icmp_gt (tgt := 18) hO dX11_fate_7 rfl rfl hv (inRlit _) (fun c7 => ?_) (fun c7 => ?_)
    · refine aw_iconst hO dX11_fate_18 rfl ?_
      refine aw_zret hO dX11_fate_19 (Or.inl rfl) ?_
      exact ⟨_, rfl, by first | rw [if_neg (by omega)] | rw [if_pos (by omega), if_neg (by omega)], by first | rw [if_neg (by omega)]; exact h | rw [if_pos (by omega), if_neg (by omega)]; exact h⟩
    · refine aw_iload_n hO dX11_fate_10 rfl rfl ?_
      refine aw_aload_n hO dX11_fate_11 rfl rfl ?_
      refine gC_X11_105_0 hO dX11_fate_12 rfl ?_
      refine aw_cg h.N.1 ?_
      refine aw_icmp_ne (tgt := 20) hO dX11_fate_15 rfl rfl hv ⟨by omega, by omega⟩ (fun c15 => ?_) (fun c15 => ?_)
      · refine aw_aload_n hO dX11_fate_20 rfl rfl ?_
        refine aw_iload_n hO dX11_fate_21 rfl rfl ?_
        refine pC_X11_105_0 hO dX11_fate_22 rfl ?_
        refine aw_mm (fun μ1 e_μ1 => ?_)
        refine aw_iconst hO dX11_fate_25 rfl ?_
        refine aw_zret hO dX11_fate_26 (Or.inr rfl) ?_
        exact ⟨_, rfl, by rw [if_pos (by omega), if_pos c15], by rw [if_pos (by omega), if_pos c15, e_μ1]; exact h.fate (by omega)⟩
      · refine aw_iconst hO dX11_fate_18 rfl ?_
        refine aw_zret hO dX11_fate_19 (Or.inl rfl) ?_
        exact ⟨_, rfl, by first | rw [if_neg (by omega)] | rw [if_pos (by omega), if_neg (by omega)], by first | rw [if_neg (by omega)]; exact h | rw [if_pos (by omega), if_neg (by omega)]; exact h⟩
theorem dX11_end_0 : decode cX11_end 0 = .ok (.iload_n 1, 1) := by decide +kernel
theorem dX11_end_1 : decode cX11_end 1 = .ok (.ifCond .lt 14, 3) := by decide +kernel
theorem dX11_end_4 : decode cX11_end 4 = .ok (.iload_n 1, 1) := by decide +kernel
theorem dX11_end_5 : decode cX11_end 5 = .ok (.aload_n 0, 1) := by decide +kernel
theorem dX11_end_6 : decode cX11_end 6 = .ok (.getfield 10, 3) := by decide +kernel
theorem dX11_end_9 : decode cX11_end 9 = .ok (.getfield 117, 3) := by decide +kernel
theorem dX11_end_12 : decode cX11_end 12 = .ok (.if_icmp .le 5, 3) := by decide +kernel
theorem dX11_end_15 : decode cX11_end 15 = .ok (.iconst 0, 1) := by decide +kernel
theorem dX11_end_16 : decode cX11_end 16 = .ok (.ireturn, 1) := by decide +kernel
theorem dX11_end_17 : decode cX11_end 17 = .ok (.aload_n 0, 1) := by decide +kernel
theorem dX11_end_18 : decode cX11_end 18 = .ok (.getfield 10, 3) := by decide +kernel
theorem dX11_end_21 : decode cX11_end 21 = .ok (.iload_n 1, 1) := by decide +kernel
theorem dX11_end_22 : decode cX11_end 22 = .ok (.putfield 117, 3) := by decide +kernel
theorem dX11_end_25 : decode cX11_end 25 = .ok (.iconst 1, 1) := by decide +kernel
theorem dX11_end_26 : decode cX11_end 26 = .ok (.ireturn, 1) := by decide +kernel
set_option maxRecDepth 100000 in
theorem pC_X11_117_1 {Q : Option AV → Mm → Prop} {K : KT} {cc : ByteArray} {nL d : Nat} {ret : Option FieldType} {pc n : Nat} {ls : List (Option AV)} {st : List AV} {μ : Mm} {a : Int} (hO : KOk PC Q K cc RX11 nL d ret) (hd : decode cc pc = .ok (.putfield 117, 3)) (hn : pc + 3 = n) (kk : AW K n ls st (mst μ 1 2 a)) : AW K pc ls (vI a :: vR 1 :: st) μ := aw_putN (f := 2) hO hd hn okX8 tyX8_ok nmX8 (by decide) (lw_t1n 44 rfl rfl) rfl rfl rfl (by decide) rfl rfl kk
set_option maxHeartbeats 4000000 in
set_option maxRecDepth 100000 in
theorem cP_end {μ ν : Mm} (h : Rel μ ν) {v : Int} (hv : InR v) : CtE PC 1 yX11_end cX11_end 2 (some .boolean) [vR 0, vI v] μ (fun r m => r = (if v < 0 then 0 else (if v ≤ (ν.1 0 2) then 1 else 0)) ∧ Rel m (if v < 0 then ν else (if v ≤ (ν.1 0 2) then (mst ν 0 2 v) else ν))) := by
  refine ct_intro [some (vR 0), some (vI v)] RX11 (by decide) rfl XCo rfl (Nat.le_of_ble_eq_true rfl) (fun K hO => ?_)
  obtain ⟨c, hc, hlc1, hlc2, hl3, hl4, hl5⟩ := h.L
  obtain ⟨N, hN, hN1, hN2, hN3⟩ := h.P
  obtain ⟨a, x, ha, hx, ha1, ha2, ha3, ha4⟩ := h.A
  have hnp := h.B.np
  have hnt := h.B.nt
  have hr := h.B.now.rest
  have hN15 := h.N.2.1
  refine aw_iload_n hO dX11_end_0 rfl rfl ?_
  refine aw_if_lt (tgt := 15) hO dX11_end_1 rfl rfl hv (fun c1 => ?_) (fun c1 => ?_)
  · refine aw_iconst hO dX11_end_15 rfl ?_
    refine aw_zret hO dX11_end_16 (Or.inl rfl) ?_
    exact ⟨_, rfl, by rw [hN2]; first | rw [if_pos (by omega)] | rw [if_neg (by omega), if_neg (by omega)], by rw [hN2]; first | rw [if_pos (by omega)]; exact h | rw [if_neg (by omega), if_neg (by omega)]; exact h⟩
  · refine aw_iload_n hO dX11_end_4 rfl rfl ?_
    refine aw_aload_n hO dX11_end_5 rfl rfl ?_
    refine gC_X11_10_0 hO dX11_end_6 rfl ?_
    refine gC_X11_117_1 hO dX11_end_9 rfl ?_
    refine aw_cg hN1 ?_
    refine aw_icmp_le (tgt := 17) hO dX11_end_12 rfl rfl hv (inRn (by omega)) (fun c12 => ?_) (fun c12 => ?_)
    · refine aw_aload_n hO dX11_end_17 rfl rfl ?_
      refine gC_X11_10_0 hO dX11_end_18 rfl ?_
      refine aw_iload_n hO dX11_end_21 rfl rfl ?_
      refine pC_X11_117_1 hO dX11_end_22 rfl ?_
      refine aw_mm (fun μ1 e_μ1 => ?_)
      refine aw_iconst hO dX11_end_25 rfl ?_
      refine aw_zret hO dX11_end_26 (Or.inr rfl) ?_
      exact ⟨_, rfl, by rw [if_neg (by omega), if_pos (by omega)], by rw [if_neg (by omega), if_pos (by omega), e_μ1]; exact h.tape (Fq.rf.st (Or.inl ⟨rfl, rfl⟩) _) (Fq.rf.st (Or.inl ⟨rfl, rfl⟩) _) rfl ⟨v.toNat, by omega, by rw [mst_eq]; omega, by rw [mst_eq]; omega, fun p hp => by rw [mst_nk (by decide), mst_nk (by decide)]; exact hN3 p (by omega)⟩⟩
    · refine aw_iconst hO dX11_end_15 rfl ?_
      refine aw_zret hO dX11_end_16 (Or.inl rfl) ?_
      exact ⟨_, rfl, by rw [hN2]; first | rw [if_pos (by omega)] | rw [if_neg (by omega), if_neg (by omega)], by rw [hN2]; first | rw [if_pos (by omega)]; exact h | rw [if_neg (by omega), if_neg (by omega)]; exact h⟩
theorem dX11_image_0 : decode cX11_image 0 = .ok (.aload_n 0, 1) := by decide +kernel
theorem dX11_image_1 : decode cX11_image 1 = .ok (.getfield 41, 3) := by decide +kernel
theorem dX11_image_4 : decode cX11_image 4 = .ok (.invokevirtual 154, 3) := by decide +kernel
theorem dX11_image_7 : decode cX11_image 7 = .ok (.ifCond .ne 5, 3) := by decide +kernel
theorem dX11_image_10 : decode cX11_image 10 = .ok (.iconst (-1), 1) := by decide +kernel
theorem dX11_image_11 : decode cX11_image 11 = .ok (.ireturn, 1) := by decide +kernel
theorem dX11_image_12 : decode cX11_image 12 = .ok (.aload_n 0, 1) := by decide +kernel
theorem dX11_image_13 : decode cX11_image 13 = .ok (.getfield 52, 3) := by decide +kernel
theorem dX11_image_16 : decode cX11_image 16 = .ok (.aload_n 0, 1) := by decide +kernel
theorem dX11_image_17 : decode cX11_image 17 = .ok (.getfield 48, 3) := by decide +kernel
theorem dX11_image_20 : decode cX11_image 20 = .ok (.invokevirtual 367, 3) := by decide +kernel
theorem dX11_image_23 : decode cX11_image 23 = .ok (.aload_n 0, 1) := by decide +kernel
theorem dX11_image_24 : decode cX11_image 24 = .ok (.iconst 1, 1) := by decide +kernel
theorem dX11_image_25 : decode cX11_image 25 = .ok (.putfield 108, 3) := by decide +kernel
theorem dX11_image_28 : decode cX11_image 28 = .ok (.aload_n 0, 1) := by decide +kernel
theorem dX11_image_29 : decode cX11_image 29 = .ok (.getfield 48, 3) := by decide +kernel
theorem dX11_image_32 : decode cX11_image 32 = .ok (.getfield 158, 3) := by decide +kernel
theorem dX11_image_35 : decode cX11_image 35 = .ok (.bipush 6, 2) := by decide +kernel
theorem dX11_image_37 : decode cX11_image 37 = .ok (.iaload, 1) := by decide +kernel
theorem dX11_image_38 : decode cX11_image 38 = .ok (.ireturn, 1) := by decide +kernel
set_option maxRecDepth 100000 in
theorem gC_X11_52_0 {Q : Option AV → Mm → Prop} {K : KT} {cc : ByteArray} {nL d : Nat} {ret : Option FieldType} {pc n : Nat} {ls : List (Option AV)} {st : List AV} {μ : Mm} (hO : KOk PC Q K cc RX11 nL d ret) (hd : decode cc pc = .ok (.getfield 52, 3)) (hn : pc + 3 = n) (kk : AW K n ls (vR 29 :: st) μ) : AW K pc ls (vR 0 :: st) μ := aw_get (f := 6) hO hd hn okX11 (by decide) (lw_t2 51 rfl rfl) (by decide) rfl rfl rfl kk
set_option maxRecDepth 100000 in
theorem pC_X11_108_0 {Q : Option AV → Mm → Prop} {K : KT} {cc : ByteArray} {nL d : Nat} {ret : Option FieldType} {pc n : Nat} {ls : List (Option AV)} {st : List AV} {μ : Mm} {a : Int} (hO : KOk PC Q K cc RX11 nL d ret) (hd : decode cc pc = .ok (.putfield 108, 3)) (hn : pc + 3 = n) (hz : a = 0 ∨ a = 1) (kk : AW K n ls st (mst μ 0 16 a)) : AW K pc ls (vI a :: vR 0 :: st) μ := aw_put (f := 16) hO hd hn okX11 tyX11_ok nmX11 (by decide) (lw_t2 61 rfl rfl) rfl (z_nar hz).1 (z_nar hz).2 (by decide) rfl rfl kk
set_option maxHeartbeats 4000000 in
set_option maxRecDepth 100000 in
theorem cP_image {μ ν : Mm} (h : Rel μ ν)  : CtE PC 2 yX11_image cX11_image 1 (some .int) [vR 0] μ (fun r m => r = (if ν.1 0 25 = 0 then -1 else ν.1 17 36) ∧ Rel m (if ν.1 0 25 = 0 then ν else mst (mcp ν 24 17 0 0 218) 0 45 1)) := by
  refine ct_intro [some (vR 0)] RX11 (by decide) rfl XCo rfl (Nat.le_of_ble_eq_true rfl) (fun K hO => ?_)
  obtain ⟨c, hc, hlc1, hlc2, hl3, hl4, hl5⟩ := h.L
  obtain ⟨N, hN, hN1, hN2, hN3⟩ := h.P
  obtain ⟨a, x, ha, hx, ha1, ha2, ha3, ha4⟩ := h.A
  have hnp := h.B.np
  have hnt := h.B.nt
  have hr := h.B.now.rest
  have hN15 := h.N.2.1
  refine aw_aload_n hO dX11_image_0 rfl rfl ?_
  refine gC_X11_41_0 hO dX11_image_1 rfl ?_
  refine aw_callVI (as := []) (st := []) hO dX11_image_4 rfl (lw_t3 96 rfl rfl) kX9_isTold (T := TX9) rfl (by decide) rfl (cJ_isTold h.JR.z) (by decide) rfl rfl rfl (Nat.le_of_ble_eq_true rfl) ?_
  refine aw_ifz_ne (tgt := 12) hO dX11_image_7 rfl rfl (fun c7 => ?_) (fun c7 => ?_)
  · refine aw_aload_n hO dX11_image_12 rfl rfl ?_
    refine gC_X11_52_0 hO dX11_image_13 rfl ?_
    refine aw_aload_n hO dX11_image_16 rfl rfl ?_
    refine gC_X11_48_0 hO dX11_image_17 rfl ?_
    refine aw_callVV (as := [vR 27]) (st := []) hO dX11_image_20 rfl (lw_t5 124 rfl rfl) kX7_copyFrom (T := TX7) rfl (by decide) rfl (ctC_7_copyFrom μ sob29 sob27) (by decide) rfl rfl rfl (Nat.le_of_ble_eq_true rfl) (fun μ2 hq3 => ?_)
    have e_μ2 := hq3
    refine aw_aload_n hO dX11_image_23 rfl rfl ?_
    refine aw_iconst hO dX11_image_24 rfl ?_
    refine pC_X11_108_0 hO dX11_image_25 rfl (Or.inr rfl) ?_
    refine aw_mm (fun μ4 e_μ4 => ?_)
    refine aw_aload_n hO dX11_image_28 rfl rfl ?_
    refine gC_X11_48_0 hO dX11_image_29 rfl ?_
    refine gC_X11_158_27 hO dX11_image_32 rfl ?_
    refine aw_bipush hO dX11_image_35 rfl (by decide) (by decide) ?_
    refine aw_ialdn (N := 98) (i := 6) hO dX11_image_37 rfl (by decide) rfl (by decide) rfl (by decide) ?_
    refine aw_cg (show μ4.1 28 6 = ν.1 17 36 by rw [e_μ4, mst_nk (by decide), e_μ2, mcp_nk (by decide)]; exact h.S.1.yr) ?_
    refine aw_iret hO dX11_image_38 ?_
    exact ⟨_, rfl, by rw [if_neg (by omega)], by rw [if_neg (by omega), e_μ4, e_μ2]; exact h.image⟩
  · refine aw_iconst hO dX11_image_10 rfl ?_
    refine aw_iret hO dX11_image_11 ?_
    exact ⟨_, rfl, by rw [if_pos (by omega)], by rw [if_pos (by omega)]; exact h⟩
theorem dX11_back_0 : decode cX11_back 0 = .ok (.aload_n 0, 1) := by decide +kernel
theorem dX11_back_1 : decode cX11_back 1 = .ok (.getfield 108, 3) := by decide +kernel
theorem dX11_back_4 : decode cX11_back 4 = .ok (.ifCond .ne 5, 3) := by decide +kernel
theorem dX11_back_7 : decode cX11_back 7 = .ok (.iconst (-1), 1) := by decide +kernel
theorem dX11_back_8 : decode cX11_back 8 = .ok (.ireturn, 1) := by decide +kernel
theorem dX11_back_9 : decode cX11_back 9 = .ok (.aload_n 0, 1) := by decide +kernel
theorem dX11_back_10 : decode cX11_back 10 = .ok (.getfield 48, 3) := by decide +kernel
theorem dX11_back_13 : decode cX11_back 13 = .ok (.aload_n 0, 1) := by decide +kernel
theorem dX11_back_14 : decode cX11_back 14 = .ok (.getfield 52, 3) := by decide +kernel
theorem dX11_back_17 : decode cX11_back 17 = .ok (.invokevirtual 367, 3) := by decide +kernel
theorem dX11_back_20 : decode cX11_back 20 = .ok (.aload_n 0, 1) := by decide +kernel
theorem dX11_back_21 : decode cX11_back 21 = .ok (.getfield 58, 3) := by decide +kernel
theorem dX11_back_24 : decode cX11_back 24 = .ok (.invokevirtual 150, 3) := by decide +kernel
theorem dX11_back_27 : decode cX11_back 27 = .ok (.aload_n 0, 1) := by decide +kernel
theorem dX11_back_28 : decode cX11_back 28 = .ok (.getfield 48, 3) := by decide +kernel
theorem dX11_back_31 : decode cX11_back 31 = .ok (.getfield 158, 3) := by decide +kernel
theorem dX11_back_34 : decode cX11_back 34 = .ok (.bipush 6, 2) := by decide +kernel
theorem dX11_back_36 : decode cX11_back 36 = .ok (.iaload, 1) := by decide +kernel
theorem dX11_back_37 : decode cX11_back 37 = .ok (.ireturn, 1) := by decide +kernel
set_option maxRecDepth 100000 in
theorem gC_X11_108_0 {Q : Option AV → Mm → Prop} {K : KT} {cc : ByteArray} {nL d : Nat} {ret : Option FieldType} {pc n : Nat} {ls : List (Option AV)} {st : List AV} {μ : Mm} (hO : KOk PC Q K cc RX11 nL d ret) (hd : decode cc pc = .ok (.getfield 108, 3)) (hn : pc + 3 = n) (kk : AW K n ls (vI (μ.1 0 16) :: st) μ) : AW K pc ls (vR 0 :: st) μ := aw_get (f := 16) hO hd hn okX11 (by decide) (lw_t2 61 rfl rfl) (by decide) rfl rfl rfl kk
set_option maxHeartbeats 4000000 in
set_option maxRecDepth 100000 in
theorem cP_back {μ ν : Mm} (h : Rel μ ν)  : CtE PC 2 yX11_back cX11_back 1 (some .int) [vR 0] μ (fun r m => r = (if ν.1 0 45 = 0 then -1 else ν.1 24 36) ∧ Rel m (if ν.1 0 45 = 0 then ν else mst (mcp ν 17 24 0 0 218) 0 35 0)) := by
  refine ct_intro [some (vR 0)] RX11 (by decide) rfl XCo rfl (Nat.le_of_ble_eq_true rfl) (fun K hO => ?_)
  obtain ⟨c, hc, hlc1, hlc2, hl3, hl4, hl5⟩ := h.L
  obtain ⟨N, hN, hN1, hN2, hN3⟩ := h.P
  obtain ⟨a, x, ha, hx, ha1, ha2, ha3, ha4⟩ := h.A
  have hnp := h.B.np
  have hnt := h.B.nt
  have hr := h.B.now.rest
  have hN15 := h.N.2.1
  have hI2 : ν.1 0 45 = 0 ∨ ν.1 0 45 = 1 := h.I.2.elim Or.inl (fun q => Or.inr q.1)
  refine aw_aload_n hO dX11_back_0 rfl rfl ?_
  refine gC_X11_108_0 hO dX11_back_1 rfl ?_
  refine aw_cg h.I.1 ?_
  refine aw_if_ne (tgt := 9) hO dX11_back_4 rfl rfl ⟨by omega, by omega⟩ (fun c4 => ?_) (fun c4 => ?_)
  · refine aw_aload_n hO dX11_back_9 rfl rfl ?_
    refine gC_X11_48_0 hO dX11_back_10 rfl ?_
    refine aw_aload_n hO dX11_back_13 rfl rfl ?_
    refine gC_X11_52_0 hO dX11_back_14 rfl ?_
    refine aw_callVV (as := [vR 29]) (st := []) hO dX11_back_17 rfl (lw_t5 124 rfl rfl) kX7_copyFrom (T := TX7) rfl (by decide) rfl (ctC_7_copyFrom μ sob27 sob29) (by decide) rfl rfl rfl (Nat.le_of_ble_eq_true rfl) (fun μ2 hq3 => ?_)
    have e_μ2 := hq3
    refine aw_aload_n hO dX11_back_20 rfl rfl ?_
    refine gC_X11_58_0 hO dX11_back_21 rfl ?_
    refine aw_callVV (as := []) (st := []) hO dX11_back_24 rfl (lw_t3 79 rfl rfl) kX0_forget (T := TX0) rfl (by decide) rfl (ctC_0_forget μ2) (by decide) rfl rfl rfl (Nat.le_of_ble_eq_true rfl) (fun μ5 hq6 => ?_)
    have e_μ5 := hq6
    refine aw_aload_n hO dX11_back_27 rfl rfl ?_
    refine gC_X11_48_0 hO dX11_back_28 rfl ?_
    refine gC_X11_158_27 hO dX11_back_31 rfl ?_
    refine aw_bipush hO dX11_back_34 rfl (by decide) (by decide) ?_
    refine aw_ialdn (N := 98) (i := 6) hO dX11_back_36 rfl (by decide) rfl (by decide) rfl (by decide) ?_
    refine aw_cg (show μ5.1 28 6 = ν.1 24 36 by rw [e_μ5, mst_nk (by decide), e_μ2, mcp_in (by decide) (by decide)]; exact ((h.I.2.resolve_left c4).2).1.yr) ?_
    refine aw_iret hO dX11_back_37 ?_
    exact ⟨_, rfl, by rw [if_neg c4], by rw [if_neg c4, e_μ5, e_μ2]; exact h.back c4⟩
  · refine aw_iconst hO dX11_back_7 rfl ?_
    refine aw_iret hO dX11_back_8 ?_
    exact ⟨_, rfl, by rw [if_pos c4], by rw [if_pos c4]; exact h⟩
theorem dX11_undo_0 : decode cX11_undo 0 = .ok (.aload_n 0, 1) := by decide +kernel
theorem dX11_undo_1 : decode cX11_undo 1 = .ok (.getfield 58, 3) := by decide +kernel
theorem dX11_undo_4 : decode cX11_undo 4 = .ok (.getfield 249, 3) := by decide +kernel
theorem dX11_undo_7 : decode cX11_undo 7 = .ok (.ifCond .ne 5, 3) := by decide +kernel
theorem dX11_undo_10 : decode cX11_undo 10 = .ok (.iconst (-1), 1) := by decide +kernel
theorem dX11_undo_11 : decode cX11_undo 11 = .ok (.ireturn, 1) := by decide +kernel
theorem dX11_undo_12 : decode cX11_undo 12 = .ok (.aload_n 0, 1) := by decide +kernel
theorem dX11_undo_13 : decode cX11_undo 13 = .ok (.getfield 58, 3) := by decide +kernel
theorem dX11_undo_16 : decode cX11_undo 16 = .ok (.aload_n 0, 1) := by decide +kernel
theorem dX11_undo_17 : decode cX11_undo 17 = .ok (.getfield 48, 3) := by decide +kernel
theorem dX11_undo_20 : decode cX11_undo 20 = .ok (.invokevirtual 252, 3) := by decide +kernel
theorem dX11_undo_23 : decode cX11_undo 23 = .ok (.aload_n 0, 1) := by decide +kernel
theorem dX11_undo_24 : decode cX11_undo 24 = .ok (.getfield 58, 3) := by decide +kernel
theorem dX11_undo_27 : decode cX11_undo 27 = .ok (.getfield 249, 3) := by decide +kernel
theorem dX11_undo_30 : decode cX11_undo 30 = .ok (.ireturn, 1) := by decide +kernel
set_option maxHeartbeats 4000000 in
set_option maxRecDepth 100000 in
theorem cP_undo {μ ν : Mm} (h : Rel μ ν)  : CtE PC 2 yX11_undo cX11_undo 1 (some .int) [vR 0] μ (fun r m => r = (if ν.1 0 35 = 0 then -1 else ν.1 0 35 - 1) ∧ Rel m (if ν.1 0 35 = 0 then ν else mcp (mst ν 0 35 (ν.1 0 35 - 1)) 17 19 0 (218 * (ν.1 0 35 - 1).toNat) 218)) := by
  refine ct_intro [some (vR 0)] RX11 (by decide) rfl XCo rfl (Nat.le_of_ble_eq_true rfl) (fun K hO => ?_)
  obtain ⟨c, hc, hlc1, hlc2, hl3, hl4, hl5⟩ := h.L
  obtain ⟨N, hN, hN1, hN2, hN3⟩ := h.P
  obtain ⟨a, x, ha, hx, ha1, ha2, ha3, ha4⟩ := h.A
  have hnp := h.B.np
  have hnt := h.B.nt
  have hr := h.B.now.rest
  have hN15 := h.N.2.1
  refine aw_aload_n hO dX11_undo_0 rfl rfl ?_
  refine gC_X11_58_0 hO dX11_undo_1 rfl ?_
  refine gC_X11_249_31 hO dX11_undo_4 rfl ?_
  refine aw_cg ha1 ?_
  refine aw_if_ne (tgt := 12) hO dX11_undo_7 rfl rfl (inRn (by omega)) (fun c7 => ?_) (fun c7 => ?_)
  · refine aw_aload_n hO dX11_undo_12 rfl rfl ?_
    refine gC_X11_58_0 hO dX11_undo_13 rfl ?_
    refine aw_aload_n hO dX11_undo_16 rfl rfl ?_
    refine gC_X11_48_0 hO dX11_undo_17 rfl ?_
    refine aw_callVV (as := [vR 27]) (st := []) hO dX11_undo_20 rfl (lw_t4 113 rfl rfl) kX0_takeBack (T := TX0) rfl (by decide) rfl (ctC_0_takeBack μ ha3 hx ⟨by omega, by omega⟩) (by decide) rfl rfl rfl (Nat.le_of_ble_eq_true rfl) (fun μ2 hq3 => ?_)
    have e_μ2 := hq3
    refine aw_aload_n hO dX11_undo_23 rfl rfl ?_
    refine gC_X11_58_0 hO dX11_undo_24 rfl ?_
    refine gC_X11_249_31 hO dX11_undo_27 rfl ?_
    refine aw_cg (show μ2.1 31 1 = ν.1 0 35 - 1 by rw [e_μ2, mcp_nk (by decide), mst_eq]; omega) ?_
    refine aw_iret hO dX11_undo_30 ?_
    exact ⟨_, rfl, by rw [if_neg (by omega)], by rw [if_neg (by omega), e_μ2]; exact h.undo ha3 ha1 (by omega)⟩
  · refine aw_iconst hO dX11_undo_10 rfl ?_
    refine aw_iret hO dX11_undo_11 ?_
    exact ⟨_, rfl, by rw [if_pos (by omega)], by rw [if_pos (by omega)]; exact h⟩
theorem dX11_refuse_0 : decode cX11_refuse 0 = .ok (.aload_n 0, 1) := by decide +kernel
theorem dX11_refuse_1 : decode cX11_refuse 1 = .ok (.getfield 94, 3) := by decide +kernel
theorem dX11_refuse_4 : decode cX11_refuse 4 = .ok (.iload_n 1, 1) := by decide +kernel
theorem dX11_refuse_5 : decode cX11_refuse 5 = .ok (.dup2, 1) := by decide +kernel
theorem dX11_refuse_6 : decode cX11_refuse 6 = .ok (.iaload, 1) := by decide +kernel
theorem dX11_refuse_7 : decode cX11_refuse 7 = .ok (.iconst 1, 1) := by decide +kernel
theorem dX11_refuse_8 : decode cX11_refuse 8 = .ok (.iadd, 1) := by decide +kernel
theorem dX11_refuse_9 : decode cX11_refuse 9 = .ok (.iastore, 1) := by decide +kernel
theorem dX11_refuse_10 : decode cX11_refuse 10 = .ok (.iconst (-1), 1) := by decide +kernel
theorem dX11_refuse_11 : decode cX11_refuse 11 = .ok (.ireturn, 1) := by decide +kernel
set_option maxHeartbeats 4000000 in
set_option maxRecDepth 100000 in
theorem cP_refuse {μ ν : Mm} (h : Rel μ ν) {j : Nat} (hj : j < 5) : CtE PC 0 yX11_refuse cX11_refuse 2 (some .int) [vR 0, vI ((j : Nat) : Int)] μ (fun r m => r = -1 ∧ Rel m (mst ν 18 j (ν.1 18 j + 1))) := by
  refine ct_intro [some (vR 0), some (vI ((j : Nat) : Int))] RX11 (by decide) rfl XCo rfl (Nat.le_of_ble_eq_true rfl) (fun K hO => ?_)
  obtain ⟨c, hc, hlc1, hlc2, hl3, hl4, hl5⟩ := h.L
  obtain ⟨N, hN, hN1, hN2, hN3⟩ := h.P
  obtain ⟨a, x, ha, hx, ha1, ha2, ha3, ha4⟩ := h.A
  have hnp := h.B.np
  have hnt := h.B.nt
  have hr := h.B.now.rest
  have hN15 := h.N.2.1
  refine aw_aload_n hO dX11_refuse_0 rfl rfl ?_
  refine gC_X11_94_0 hO dX11_refuse_1 rfl ?_
  refine aw_iload_n hO dX11_refuse_4 rfl rfl ?_
  refine aw_dup2 hO dX11_refuse_5 rfl rfl rfl ?_
  refine aw_ialdn (N := 5) (i := j) hO dX11_refuse_6 rfl (by decide) rfl (by decide) rfl (by omega) ?_
  refine aw_iconst hO dX11_refuse_7 rfl ?_
  refine aw_iadd hO dX11_refuse_8 rfl ?_
  refine aw_iastn (N := 5) (i := j) hO dX11_refuse_9 rfl (by decide) rfl (by decide) rfl (by omega) ?_
  refine aw_mm (fun μ1 e_μ1 => ?_)
  refine aw_iconst hO dX11_refuse_10 rfl ?_
  refine aw_iret hO dX11_refuse_11 ?_
  exact ⟨_, rfl, rfl, by rw [e_μ1]; exact h.refuse hj⟩
theorem dX11_isInTown_0 : decode cX11_isInTown 0 = .ok (.aload_n 0, 1) := by decide +kernel
theorem dX11_isInTown_1 : decode cX11_isInTown 1 = .ok (.getfield 41, 3) := by decide +kernel
theorem dX11_isInTown_4 : decode cX11_isInTown 4 = .ok (.iload_n 1, 1) := by decide +kernel
theorem dX11_isInTown_5 : decode cX11_isInTown 5 = .ok (.invokevirtual 164, 3) := by decide +kernel
theorem dX11_isInTown_8 : decode cX11_isInTown 8 = .ok (.ifCond .eq 18, 3) := by decide +kernel
theorem dX11_isInTown_11 : decode cX11_isInTown 11 = .ok (.aload_n 0, 1) := by decide +kernel
theorem dX11_isInTown_12 : decode cX11_isInTown 12 = .ok (.getfield 48, 3) := by decide +kernel
theorem dX11_isInTown_15 : decode cX11_isInTown 15 = .ok (.iload_n 1, 1) := by decide +kernel
theorem dX11_isInTown_16 : decode cX11_isInTown 16 = .ok (.invokevirtual 185, 3) := by decide +kernel
theorem dX11_isInTown_19 : decode cX11_isInTown 19 = .ok (.ifCond .ne 7, 3) := by decide +kernel
theorem dX11_isInTown_22 : decode cX11_isInTown 22 = .ok (.iconst 1, 1) := by decide +kernel
theorem dX11_isInTown_23 : decode cX11_isInTown 23 = .ok (.goto 4, 3) := by decide +kernel
theorem dX11_isInTown_26 : decode cX11_isInTown 26 = .ok (.iconst 0, 1) := by decide +kernel
theorem dX11_isInTown_27 : decode cX11_isInTown 27 = .ok (.ireturn, 1) := by decide +kernel
set_option maxHeartbeats 4000000 in
set_option maxRecDepth 100000 in
theorem cP_isInTown {μ ν : Mm} (h : Rel μ ν) {v : Int} (hv : InR v) : CtI PC 1 yX11_isInTown cX11_isInTown 2 (some .boolean) [vR 0, vI v] μ (if (0 ≤ v ∧ v < ν.1 0 25) ∧ hasB (ν.1 17 31) v.toNat = false then 1 else 0) := by
  refine ct_intro [some (vR 0), some (vI v)] RX11 (by decide) rfl XCo rfl (Nat.le_of_ble_eq_true rfl) (fun K hO => ?_)
  obtain ⟨c, hc, hlc1, hlc2, hl3, hl4, hl5⟩ := h.L
  obtain ⟨N, hN, hN1, hN2, hN3⟩ := h.P
  obtain ⟨a, x, ha, hx, ha1, ha2, ha3, ha4⟩ := h.A
  have hnp := h.B.np
  have hnt := h.B.nt
  have hr := h.B.now.rest
  have hN15 := h.N.2.1
  refine aw_aload_n hO dX11_isInTown_0 rfl rfl ?_
  refine gC_X11_41_0 hO dX11_isInTown_1 rfl ?_
  refine aw_iload_n hO dX11_isInTown_4 rfl rfl ?_
  refine aw_callVI (as := [vI v]) (st := []) hO dX11_isInTown_5 rfl (lw_t3 170 rfl rfl) kX9_hasPerson (T := TX9) rfl (by decide) rfl (cJ_hasPerson h.JR.z hv) (by decide) rfl rfl rfl (Nat.le_of_ble_eq_true rfl) ?_
  refine aw_ifz_eq (tgt := 26) hO dX11_isInTown_8 rfl rfl (fun c8 => ?_) (fun c8 => ?_)
  · refine aw_iconst hO dX11_isInTown_26 rfl ?_
    refine aw_zret hO dX11_isInTown_27 (by first | exact Or.inl rfl | exact Or.inr rfl) ?_
    exact rI (by rw [if_neg (fun z => c8 z.1)])
  · obtain ⟨p, hpe⟩ := Int.eq_ofNat_of_zero_le c8.1
    subst hpe
    refine aw_aload_n hO dX11_isInTown_11 rfl rfl ?_
    refine gC_X11_48_0 hO dX11_isInTown_12 rfl ?_
    refine aw_iload_n hO dX11_isInTown_15 rfl rfl ?_
    refine aw_callVI (as := [vI ((p : Nat) : Int)]) (st := []) hO dX11_isInTown_16 rfl (lw_t3 208 rfl rfl) kX7_isAway (T := TX7) rfl (by decide) rfl (cJ_isAway h.JR.ob h.JR.S p) (by decide) rfl rfl rfl (Nat.le_of_ble_eq_true rfl) ?_
    refine aw_ifz_ne (tgt := 26) hO dX11_isInTown_19 rfl rfl (fun c19 => ?_) (fun c19 => ?_)
    · refine aw_iconst hO dX11_isInTown_26 rfl ?_
      refine aw_zret hO dX11_isInTown_27 (by first | exact Or.inl rfl | exact Or.inr rfl) ?_
      exact rI (by rw [if_neg (fun z => by have := z.2; rw [Int.toNat_natCast, c19] at this; cases this)])
    · refine aw_iconst hO dX11_isInTown_22 rfl ?_
      refine aw_goto (tgt := 27) hO dX11_isInTown_23 rfl ?_
      refine aw_zret hO dX11_isInTown_27 (by first | exact Or.inl rfl | exact Or.inr rfl) ?_
      exact rI (by rw [if_pos ⟨c8, by rw [Int.toNat_natCast]; exact Bool.not_eq_true _ ▸ c19⟩])
