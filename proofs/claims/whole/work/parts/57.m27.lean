theorem dX12_goOnAnd_0 : decode cX12_goOnAnd 0 = .ok (.aload_n 0, 1) := by decide +kernel
theorem dX12_goOnAnd_1 : decode cX12_goOnAnd 1 = .ok (.getfield 107, 3) := by decide +kernel
theorem dX12_goOnAnd_4 : decode cX12_goOnAnd 4 = .ok (.iconst (-1), 1) := by decide +kernel
theorem dX12_goOnAnd_5 : decode cX12_goOnAnd 5 = .ok (.if_icmp .ne 36, 3) := by decide +kernel
theorem dX12_goOnAnd_8 : decode cX12_goOnAnd 8 = .ok (.aload_n 0, 1) := by decide +kernel
theorem dX12_goOnAnd_9 : decode cX12_goOnAnd 9 = .ok (.invokevirtual 119, 3) := by decide +kernel
theorem dX12_goOnAnd_12 : decode cX12_goOnAnd 12 = .ok (.bipush 38, 2) := by decide +kernel
theorem dX12_goOnAnd_14 : decode cX12_goOnAnd 14 = .ok (.if_icmp .ne 27, 3) := by decide +kernel
theorem dX12_goOnAnd_17 : decode cX12_goOnAnd 17 = .ok (.aload_n 0, 1) := by decide +kernel
theorem dX12_goOnAnd_18 : decode cX12_goOnAnd 18 = .ok (.dup, 1) := by decide +kernel
theorem dX12_goOnAnd_19 : decode cX12_goOnAnd 19 = .ok (.getfield 100, 3) := by decide +kernel
theorem dX12_goOnAnd_22 : decode cX12_goOnAnd 22 = .ok (.iconst 1, 1) := by decide +kernel
theorem dX12_goOnAnd_23 : decode cX12_goOnAnd 23 = .ok (.iadd, 1) := by decide +kernel
theorem dX12_goOnAnd_24 : decode cX12_goOnAnd 24 = .ok (.putfield 100, 3) := by decide +kernel
theorem dX12_goOnAnd_27 : decode cX12_goOnAnd 27 = .ok (.aload_n 0, 1) := by decide +kernel
theorem dX12_goOnAnd_28 : decode cX12_goOnAnd 28 = .ok (.invokevirtual 156, 3) := by decide +kernel
theorem dX12_goOnAnd_31 : decode cX12_goOnAnd 31 = .ok (.aload_n 0, 1) := by decide +kernel
theorem dX12_goOnAnd_32 : decode cX12_goOnAnd 32 = .ok (.bipush 10, 2) := by decide +kernel
theorem dX12_goOnAnd_34 : decode cX12_goOnAnd 34 = .ok (.iconst 0, 1) := by decide +kernel
theorem dX12_goOnAnd_35 : decode cX12_goOnAnd 35 = .ok (.invokevirtual 129, 3) := by decide +kernel
theorem dX12_goOnAnd_38 : decode cX12_goOnAnd 38 = .ok (.goto (-38), 3) := by decide +kernel
theorem dX12_goOnAnd_41 : decode cX12_goOnAnd 41 = .ok (.return_, 1) := by decide +kernel
set_option maxHeartbeats 4000000 in
set_option maxRecDepth 100000 in
theorem ctM_goOnAndB (μ : Mm) {g : Nat → Int} {N τ : Nat} {q B : Nat} (h : Bd g N τ μ q B) : CtV PM 0 yX12_goOnAnd cX12_goOnAnd 1 none [vR 0] μ (fun m => m = μ) := by
  refine ct_intro [some (vR 0)] RX12 (by decide) rfl XM rfl (Nat.le_of_ble_eq_true rfl) (fun K hO => ?_)
  have hN := h.1.1.1
  have hqN := h.2.1.2
  refine aw_aload_n hO dX12_goOnAnd_0 rfl rfl ?_
  refine gM_wrong hO dX12_goOnAnd_1 rfl ?_
  refine aw_cg h.2.1.1 ?_
  refine aw_iconst hO dX12_goOnAnd_4 rfl ?_
  refine aw_icmp_ne (tgt := 41) hO dX12_goOnAnd_5 rfl rfl (inRn (by omega)) (inRlit _) (fun c5 => ?_) (fun c5 => ?_)
  · refine aw_vret hO dX12_goOnAnd_41 ?_
    exact ⟨rfl, rfl⟩
  · exact absurd c5 (by omega)
theorem dX12_goOnOr_0 : decode cX12_goOnOr 0 = .ok (.aload_n 0, 1) := by decide +kernel
theorem dX12_goOnOr_1 : decode cX12_goOnOr 1 = .ok (.getfield 107, 3) := by decide +kernel
theorem dX12_goOnOr_4 : decode cX12_goOnOr 4 = .ok (.iconst (-1), 1) := by decide +kernel
theorem dX12_goOnOr_5 : decode cX12_goOnOr 5 = .ok (.if_icmp .ne 40, 3) := by decide +kernel
theorem dX12_goOnOr_8 : decode cX12_goOnOr 8 = .ok (.aload_n 0, 1) := by decide +kernel
theorem dX12_goOnOr_9 : decode cX12_goOnOr 9 = .ok (.invokevirtual 119, 3) := by decide +kernel
theorem dX12_goOnOr_12 : decode cX12_goOnOr 12 = .ok (.bipush 124, 2) := by decide +kernel
theorem dX12_goOnOr_14 : decode cX12_goOnOr 14 = .ok (.if_icmp .ne 31, 3) := by decide +kernel
theorem dX12_goOnOr_17 : decode cX12_goOnOr 17 = .ok (.aload_n 0, 1) := by decide +kernel
theorem dX12_goOnOr_18 : decode cX12_goOnOr 18 = .ok (.dup, 1) := by decide +kernel
theorem dX12_goOnOr_19 : decode cX12_goOnOr 19 = .ok (.getfield 100, 3) := by decide +kernel
theorem dX12_goOnOr_22 : decode cX12_goOnOr 22 = .ok (.iconst 1, 1) := by decide +kernel
theorem dX12_goOnOr_23 : decode cX12_goOnOr 23 = .ok (.iadd, 1) := by decide +kernel
theorem dX12_goOnOr_24 : decode cX12_goOnOr 24 = .ok (.putfield 100, 3) := by decide +kernel
theorem dX12_goOnOr_27 : decode cX12_goOnOr 27 = .ok (.aload_n 0, 1) := by decide +kernel
theorem dX12_goOnOr_28 : decode cX12_goOnOr 28 = .ok (.invokevirtual 156, 3) := by decide +kernel
theorem dX12_goOnOr_31 : decode cX12_goOnOr 31 = .ok (.aload_n 0, 1) := by decide +kernel
theorem dX12_goOnOr_32 : decode cX12_goOnOr 32 = .ok (.invokevirtual 165, 3) := by decide +kernel
theorem dX12_goOnOr_35 : decode cX12_goOnOr 35 = .ok (.aload_n 0, 1) := by decide +kernel
theorem dX12_goOnOr_36 : decode cX12_goOnOr 36 = .ok (.bipush 11, 2) := by decide +kernel
theorem dX12_goOnOr_38 : decode cX12_goOnOr 38 = .ok (.iconst 0, 1) := by decide +kernel
theorem dX12_goOnOr_39 : decode cX12_goOnOr 39 = .ok (.invokevirtual 129, 3) := by decide +kernel
theorem dX12_goOnOr_42 : decode cX12_goOnOr 42 = .ok (.goto (-42), 3) := by decide +kernel
theorem dX12_goOnOr_45 : decode cX12_goOnOr 45 = .ok (.return_, 1) := by decide +kernel
set_option maxHeartbeats 4000000 in
set_option maxRecDepth 100000 in
theorem ctM_goOnOrB (μ : Mm) {g : Nat → Int} {N τ : Nat} {q B : Nat} (h : Bd g N τ μ q B) : CtV PM 0 yX12_goOnOr cX12_goOnOr 1 none [vR 0] μ (fun m => m = μ) := by
  refine ct_intro [some (vR 0)] RX12 (by decide) rfl XM rfl (Nat.le_of_ble_eq_true rfl) (fun K hO => ?_)
  have hN := h.1.1.1
  have hqN := h.2.1.2
  refine aw_aload_n hO dX12_goOnOr_0 rfl rfl ?_
  refine gM_wrong hO dX12_goOnOr_1 rfl ?_
  refine aw_cg h.2.1.1 ?_
  refine aw_iconst hO dX12_goOnOr_4 rfl ?_
  refine aw_icmp_ne (tgt := 45) hO dX12_goOnOr_5 rfl rfl (inRn (by omega)) (inRlit _) (fun c5 => ?_) (fun c5 => ?_)
  · refine aw_vret hO dX12_goOnOr_45 ?_
    exact ⟨rfl, rfl⟩
  · exact absurd c5 (by omega)
set_option maxHeartbeats 4000000 in
set_option maxRecDepth 100000 in
theorem ctM_goOnAnd0 {d D B : Nat} {R : (Nat → Int) → Nat → PR} (hD : 3 ≤ D) (hB : 241 ≤ B) (hB5 : B < 500) (hI : CP D yX12_unit cX12_unit 2 d B R) (hR : GG R) : CPt (D + 1) yX12_goOnAnd cX12_goOnAnd 1 d (B + 1) (fun g => rest g (R g) sepN 241) := by
  intro g N τ a L t μ h hL
  have hN240 := h.1.1.1
  refine ct_intro [some (vR 0)] RX12 (by decide) rfl XM rfl (Nat.le_of_ble_eq_true rfl) (fun K hO => ?_)
  have hN := h.1.1.1
  have hG := h.G
  have hpN := sk_le hG h.le
  obtain ⟨W, hGG⟩ := hR g N hG
  have lp : ∀ (f b q : Nat) (u : List Tok) (m : Mm), N < q + f → sk g b = q → L.length + u.length ≤ q → rest g (R g) sepN f q u = rest g (R g) sepN 241 (sk g a) t → Fr (sS τ) μ m → PS g N τ m b d (L ++ u) → AW K 0 [some (vR 0)] [] m := by
    intro f
    induction f with
    | zero =>
      intro b q u m hf hsk hl e0 hf0 hp
      have := sk_le hG hp.le
      omega
    | succ f ih =>
      intro b q u m hf hsk hl e0 hf0 hp
      have hqN : q ≤ N := by rw [← hsk]; exact sk_le hG hp.le
      have hll : (L ++ u).length ≤ 240 := by rw [List.length_append]; omega
      have hsg := sk_ge g (q + 1)
      refine aw_aload_n hO dX12_goOnAnd_0 rfl rfl ?_
      refine gM_wrong hO dX12_goOnAnd_1 rfl ?_
      refine aw_cg hp.wr ?_
      refine aw_iconst hO dX12_goOnAnd_4 rfl ?_
      refine aw_icmp_ne (tgt := 41) hO dX12_goOnAnd_5 rfl rfl (inRlit _) (inRlit _) (fun c5 => ?_) (fun c5 => ?_)
      · exact absurd c5 (by omega)
      · refine aw_aload_n hO dX12_goOnAnd_8 rfl rfl ?_
        refine aw_callVE (as := []) (st := []) hO dX12_goOnAnd_9 rfl (lw_t6 140 rfl rfl) kX12_look (T := TX12) rfl (by decide) rfl (ctM_look m hp.1 hp.at hp.le) (by omega) rfl rfl rfl (Nat.le_of_ble_eq_true rfl) (fun v1 μ2 hq3 => ?_)
        obtain ⟨e_v1, e_μ2⟩ := hq3
        subst e_v1
        have hp_μ2 := hp.look
        rw [← e_μ2] at hp_μ2
        have hf_μ2 : Fr (sS τ) μ μ2 := by rw [e_μ2]; exact hf0.st sS_at _
        have hr_μ2 := hp.G.rng (sk g b)
        rw [hsk] at hp_μ2 hr_μ2 ⊢
        refine aw_bipush hO dX12_goOnAnd_12 rfl (by decide) (by decide) ?_
        refine aw_icmp_ne (tgt := 41) hO dX12_goOnAnd_14 rfl rfl ⟨by omega, by omega⟩ (inRlit _) (fun c14 => ?_) (fun c14 => ?_)
        · refine aw_vret hO dX12_goOnAnd_41 ?_
          exact ⟨rfl, hf_μ2, (PO_g (e0.symm.trans (rest_n (by unfold sepN; rw [if_neg c14])))).mpr ⟨q, by rw [← hsk, sk_sk hG], hp_μ2⟩⟩
        · have hsep : sepN (g q) = some 10 := by unfold sepN; rw [if_pos c14]
          have hlt := hG.lt (p := q) (by omega)
          refine aw_aload_n hO dX12_goOnAnd_17 rfl rfl ?_
          refine aw_dup hO dX12_goOnAnd_18 rfl rfl ?_
          refine gM_at hO dX12_goOnAnd_19 rfl ?_
          refine aw_cg hp_μ2.at ?_
          refine aw_iconst hO dX12_goOnAnd_22 rfl ?_
          refine aw_iadd hO dX12_goOnAnd_23 rfl ?_
          refine pM_at hO dX12_goOnAnd_24 rfl ?_
          refine aw_mm (fun μ4 e_μ4 => ?_)
          have hf_μ4 : Fr (sS τ) μ μ4 := by rw [e_μ4]; exact hf_μ2.st sS_at _
          have hp_μ4 := hp_μ2.to (b := (q + 1)) (by omega)
          rw [show (((q + 1) : Nat) : Int) = ((q : Nat) : Int) + 1 from rfl, ← e_μ4] at hp_μ4
          refine aw_aload_n hO dX12_goOnAnd_27 rfl rfl ?_
          refine aw_callVV (as := []) (st := []) hO dX12_goOnAnd_28 rfl (lw_t6 191 rfl rfl) kX12_unit (T := TX12) rfl (by decide) rfl (hI g N τ (q + 1) (L ++ u) μ4 hp_μ4 (by rw [List.length_append]; omega)) (by omega) rfl rfl rfl (Nat.le_of_ble_eq_true rfl) (fun μ6 hq7 => ?_)
          obtain ⟨hf0_μ6, ho_μ6⟩ := hq7
          have hf_μ6 : Fr (sS τ) μ μ6 := hf_μ4.tr hf0_μ6
          rcases hx6 : R g (sk g (q + 1)) with ⟨q6, _ | t6⟩
          · have hb_μ6 := (PO_b hx6).mp ho_μ6
            have hqN6 := hb_μ6.2.1.2
            refine aw_aload_n hO dX12_goOnAnd_31 rfl rfl ?_
            refine aw_bipush hO dX12_goOnAnd_32 rfl (by decide) (by decide) ?_
            refine aw_iconst hO dX12_goOnAnd_34 rfl ?_
            obtain ⟨k_μ6, hk_μ6, hk2_μ6⟩ := hb_μ6.k (by omega)
            refine aw_callVV (as := [vI 10, vI 0]) (st := []) hO dX12_goOnAnd_35 rfl (lw_t6 199 rfl rfl) kX12_put (T := TX12) rfl (by decide) rfl (ctM_put μ6 hb_μ6.1.2.2.2.1 hb_μ6.1.2.2.2.2 hk_μ6 hk2_μ6 10 0) (by omega) rfl rfl rfl (Nat.le_of_ble_eq_true rfl) (fun μ9 hq10 => ?_)
            have hb_μ9 := hb_μ6.put hk_μ6 hk2_μ6 10 0
            rw [← hq10] at hb_μ9
            have hf_μ9 : Fr (sS τ) μ μ9 := by rw [hq10]; exact Fr_put hf_μ6 hk2_μ6
            refine aw_goto (tgt := 0) hO dX12_goOnAnd_38 rfl ?_
            refine aw_aload_n hO dX12_goOnAnd_0 rfl rfl ?_
            refine gM_wrong hO dX12_goOnAnd_1 rfl ?_
            refine aw_cg hb_μ9.2.1.1 ?_
            refine aw_iconst hO dX12_goOnAnd_4 rfl ?_
            refine aw_icmp_ne (tgt := 41) hO dX12_goOnAnd_5 rfl rfl (inRn (by omega)) (inRlit _) (fun c5 => ?_) (fun c5 => ?_)
            · refine aw_vret hO dX12_goOnAnd_41 ?_
              exact ⟨rfl, hf_μ9, (PO_b (e0.symm.trans (rest_b hsep hx6))).mpr (hb_μ9.mono (by omega))⟩
            · exact absurd c5 (by omega)
          · obtain ⟨b6, hs6, hp_μ6⟩ := (PO_g hx6).mp ho_μ6
            have hle6 := hp_μ6.le
            obtain ⟨u1, u2, u3, u4, u5⟩ := (hGG (sk g (q + 1)) (sk_le hG (by omega))).2 q6 t6 hx6
            have hlen : (L ++ u ++ t6).length ≤ 240 := by rw [List.length_append, List.length_append]; omega
            refine aw_aload_n hO dX12_goOnAnd_31 rfl rfl ?_
            refine aw_bipush hO dX12_goOnAnd_32 rfl (by decide) (by decide) ?_
            refine aw_iconst hO dX12_goOnAnd_34 rfl ?_
            refine aw_callVV (as := [vI 10, vI 0]) (st := []) hO dX12_goOnAnd_35 rfl (lw_t6 199 rfl rfl) kX12_put (T := TX12) rfl (by decide) rfl (ctM_put μ6 hp_μ6.1.2.2.2.1 hp_μ6.1.2.2.2.2 hp_μ6.co (by omega) 10 0) (by omega) rfl rfl rfl (Nat.le_of_ble_eq_true rfl) (fun μ12 hq13 => ?_)
            have hp_μ12 := hp_μ6.put (by omega) 10 0
            rw [← hq13] at hp_μ12
            have hf_μ12 : Fr (sS τ) μ μ12 := by rw [hq13]; exact Fr_put hf_μ6 (by omega)
            refine aw_goto (tgt := 0) hO dX12_goOnAnd_38 rfl ?_
            have hp9 := hp_μ12
            rw [List.append_assoc, List.append_assoc] at hp9
            exact ih b6 q6 (u ++ (t6 ++ [(10, 0)])) μ12 (by omega) hs6 (by simp only [List.length_append, List.length_cons, List.length_nil]; omega) ((rest_g hsep hx6).symm.trans e0) hf_μ12 hp9
  exact lp 241 a (sk g a) t μ (by omega) rfl hL rfl Fr.rf h
set_option maxHeartbeats 4000000 in
set_option maxRecDepth 100000 in
theorem ctM_goOnOr0 {d D B : Nat} {R : (Nat → Int) → Nat → PR} (hD : 3 ≤ D) (hB : 241 ≤ B) (hB5 : B < 500) (hI : CP D yX12_unit cX12_unit 2 d B R) (hR : GG R) (hA : CPt (D + 1) yX12_goOnAnd cX12_goOnAnd 1 d (B + 1) (fun g => rest g (R g) sepN 241)) (hR2 : GG (fun g => chn g (R g) sepN)) : CPt (D + 2) yX12_goOnOr cX12_goOnOr 1 d (B + 2) (fun g => rest g (chn g (R g) sepN) sepO 241) := by
  intro g N τ a L t μ h hL
  have hN240 := h.1.1.1
  refine ct_intro [some (vR 0)] RX12 (by decide) rfl XM rfl (Nat.le_of_ble_eq_true rfl) (fun K hO => ?_)
  have hN := h.1.1.1
  have hG := h.G
  have hpN := sk_le hG h.le
  obtain ⟨W, hGG⟩ := hR g N hG
  obtain ⟨W2, hGG2⟩ := hR2 g N hG
  have lp : ∀ (f b q : Nat) (u : List Tok) (m : Mm), N < q + f → sk g b = q → L.length + u.length ≤ q → rest g (chn g (R g) sepN) sepO f q u = rest g (chn g (R g) sepN) sepO 241 (sk g a) t → Fr (sS τ) μ m → PS g N τ m b d (L ++ u) → AW K 0 [some (vR 0)] [] m := by
    intro f
    induction f with
    | zero =>
      intro b q u m hf hsk hl e0 hf0 hp
      have := sk_le hG hp.le
      omega
    | succ f ih =>
      intro b q u m hf hsk hl e0 hf0 hp
      have hqN : q ≤ N := by rw [← hsk]; exact sk_le hG hp.le
      have hll : (L ++ u).length ≤ 240 := by rw [List.length_append]; omega
      have hsg := sk_ge g (q + 1)
      refine aw_aload_n hO dX12_goOnOr_0 rfl rfl ?_
      refine gM_wrong hO dX12_goOnOr_1 rfl ?_
      refine aw_cg hp.wr ?_
      refine aw_iconst hO dX12_goOnOr_4 rfl ?_
      refine aw_icmp_ne (tgt := 45) hO dX12_goOnOr_5 rfl rfl (inRlit _) (inRlit _) (fun c5 => ?_) (fun c5 => ?_)
      · exact absurd c5 (by omega)
      · refine aw_aload_n hO dX12_goOnOr_8 rfl rfl ?_
        refine aw_callVE (as := []) (st := []) hO dX12_goOnOr_9 rfl (lw_t6 140 rfl rfl) kX12_look (T := TX12) rfl (by decide) rfl (ctM_look m hp.1 hp.at hp.le) (by omega) rfl rfl rfl (Nat.le_of_ble_eq_true rfl) (fun v1 μ2 hq3 => ?_)
        obtain ⟨e_v1, e_μ2⟩ := hq3
        subst e_v1
        have hp_μ2 := hp.look
        rw [← e_μ2] at hp_μ2
        have hf_μ2 : Fr (sS τ) μ μ2 := by rw [e_μ2]; exact hf0.st sS_at _
        have hr_μ2 := hp.G.rng (sk g b)
        rw [hsk] at hp_μ2 hr_μ2 ⊢
        refine aw_bipush hO dX12_goOnOr_12 rfl (by decide) (by decide) ?_
        refine aw_icmp_ne (tgt := 45) hO dX12_goOnOr_14 rfl rfl ⟨by omega, by omega⟩ (inRlit _) (fun c14 => ?_) (fun c14 => ?_)
        · refine aw_vret hO dX12_goOnOr_45 ?_
          exact ⟨rfl, hf_μ2, (PO_g (e0.symm.trans (rest_n (by unfold sepO; rw [if_neg c14])))).mpr ⟨q, by rw [← hsk, sk_sk hG], hp_μ2⟩⟩
        · have hsep : sepO (g q) = some 11 := by unfold sepO; rw [if_pos c14]
          have hlt := hG.lt (p := q) (by omega)
          refine aw_aload_n hO dX12_goOnOr_17 rfl rfl ?_
          refine aw_dup hO dX12_goOnOr_18 rfl rfl ?_
          refine gM_at hO dX12_goOnOr_19 rfl ?_
          refine aw_cg hp_μ2.at ?_
          refine aw_iconst hO dX12_goOnOr_22 rfl ?_
          refine aw_iadd hO dX12_goOnOr_23 rfl ?_
          refine pM_at hO dX12_goOnOr_24 rfl ?_
          refine aw_mm (fun μ4 e_μ4 => ?_)
          have hf_μ4 : Fr (sS τ) μ μ4 := by rw [e_μ4]; exact hf_μ2.st sS_at _
          have hp_μ4 := hp_μ2.to (b := (q + 1)) (by omega)
          rw [show (((q + 1) : Nat) : Int) = ((q : Nat) : Int) + 1 from rfl, ← e_μ4] at hp_μ4
          refine aw_aload_n hO dX12_goOnOr_27 rfl rfl ?_
          refine aw_callVV (as := []) (st := []) hO dX12_goOnOr_28 rfl (lw_t6 191 rfl rfl) kX12_unit (T := TX12) rfl (by decide) rfl (hI g N τ (q + 1) (L ++ u) μ4 hp_μ4 (by rw [List.length_append]; omega)) (by omega) rfl rfl rfl (Nat.le_of_ble_eq_true rfl) (fun μ6 hq7 => ?_)
          obtain ⟨hf0_μ6, ho_μ6⟩ := hq7
          have hf_μ6 : Fr (sS τ) μ μ6 := hf_μ4.tr hf0_μ6
          rcases hx6 : R g (sk g (q + 1)) with ⟨q6, _ | t6⟩
          · have hb_μ6 := (PO_b hx6).mp ho_μ6
            have hqN6 := hb_μ6.2.1.2
            refine aw_aload_n hO dX12_goOnOr_31 rfl rfl ?_
            refine aw_callVV (as := []) (st := []) hO dX12_goOnOr_32 rfl (lw_t6 233 rfl rfl) kX12_goOnAnd (T := TX12) rfl (by decide) rfl (ctM_goOnAndB μ6 hb_μ6) (by omega) rfl rfl rfl (Nat.le_of_ble_eq_true rfl) (fun μ9 hq10 => ?_)
            subst hq10
            have hchn : chn g (R g) sepN (sk g (q + 1)) = (q6, none) := chn_b hx6
            refine aw_aload_n hO dX12_goOnOr_35 rfl rfl ?_
            refine aw_bipush hO dX12_goOnOr_36 rfl (by decide) (by decide) ?_
            refine aw_iconst hO dX12_goOnOr_38 rfl ?_
            obtain ⟨k_μ9, hk_μ9, hk2_μ9⟩ := hb_μ6.k (by omega)
            refine aw_callVV (as := [vI 11, vI 0]) (st := []) hO dX12_goOnOr_39 rfl (lw_t6 199 rfl rfl) kX12_put (T := TX12) rfl (by decide) rfl (ctM_put μ9 hb_μ6.1.2.2.2.1 hb_μ6.1.2.2.2.2 hk_μ9 hk2_μ9 11 0) (by omega) rfl rfl rfl (Nat.le_of_ble_eq_true rfl) (fun μ12 hq13 => ?_)
            have hb_μ12 := hb_μ6.put hk_μ9 hk2_μ9 11 0
            rw [← hq13] at hb_μ12
            have hf_μ12 : Fr (sS τ) μ μ12 := by rw [hq13]; exact Fr_put hf_μ6 hk2_μ9
            refine aw_goto (tgt := 0) hO dX12_goOnOr_42 rfl ?_
            refine aw_aload_n hO dX12_goOnOr_0 rfl rfl ?_
            refine gM_wrong hO dX12_goOnOr_1 rfl ?_
            refine aw_cg hb_μ12.2.1.1 ?_
            refine aw_iconst hO dX12_goOnOr_4 rfl ?_
            refine aw_icmp_ne (tgt := 45) hO dX12_goOnOr_5 rfl rfl (inRn (by omega)) (inRlit _) (fun c5 => ?_) (fun c5 => ?_)
            · refine aw_vret hO dX12_goOnOr_45 ?_
              exact ⟨rfl, hf_μ12, (PO_b (e0.symm.trans (rest_b hsep hchn))).mpr (hb_μ12.mono (by omega))⟩
            · exact absurd c5 (by omega)
          · obtain ⟨b6, hs6, hp_μ6⟩ := (PO_g hx6).mp ho_μ6
            have hle6 := hp_μ6.le
            obtain ⟨u1, u2, u3, u4, u5⟩ := (hGG (sk g (q + 1)) (sk_le hG (by omega))).2 q6 t6 hx6
            have hlen : (L ++ u ++ t6).length ≤ 240 := by rw [List.length_append, List.length_append]; omega
            refine aw_aload_n hO dX12_goOnOr_31 rfl rfl ?_
            refine aw_callVV (as := []) (st := []) hO dX12_goOnOr_32 rfl (lw_t6 233 rfl rfl) kX12_goOnAnd (T := TX12) rfl (by decide) rfl (hA g N τ b6 (L ++ u) t6 μ6 hp_μ6 (by rw [hs6, List.length_append]; omega)) (by omega) rfl rfl rfl (Nat.le_of_ble_eq_true rfl) (fun μ15 hq16 => ?_)
            obtain ⟨hf0_μ15, ho_μ15⟩ := hq16
            have hf_μ15 : Fr (sS τ) μ μ15 := hf_μ6.tr hf0_μ15
            rcases hx15 : rest g (R g) sepN 241 (sk g b6) t6 with ⟨q15, _ | t15⟩
            · have hb_μ15 := (PO_b hx15).mp ho_μ15
              have hqN15 := hb_μ15.2.1.2
              refine aw_aload_n hO dX12_goOnOr_35 rfl rfl ?_
              refine aw_bipush hO dX12_goOnOr_36 rfl (by decide) (by decide) ?_
              refine aw_iconst hO dX12_goOnOr_38 rfl ?_
              obtain ⟨k_μ15, hk_μ15, hk2_μ15⟩ := hb_μ15.k (by omega)
              refine aw_callVV (as := [vI 11, vI 0]) (st := []) hO dX12_goOnOr_39 rfl (lw_t6 199 rfl rfl) kX12_put (T := TX12) rfl (by decide) rfl (ctM_put μ15 hb_μ15.1.2.2.2.1 hb_μ15.1.2.2.2.2 hk_μ15 hk2_μ15 11 0) (by omega) rfl rfl rfl (Nat.le_of_ble_eq_true rfl) (fun μ18 hq19 => ?_)
              have hb_μ18 := hb_μ15.put hk_μ15 hk2_μ15 11 0
              rw [← hq19] at hb_μ18
              have hf_μ18 : Fr (sS τ) μ μ18 := by rw [hq19]; exact Fr_put hf_μ15 hk2_μ15
              refine aw_goto (tgt := 0) hO dX12_goOnOr_42 rfl ?_
              refine aw_aload_n hO dX12_goOnOr_0 rfl rfl ?_
              refine gM_wrong hO dX12_goOnOr_1 rfl ?_
              refine aw_cg hb_μ18.2.1.1 ?_
              refine aw_iconst hO dX12_goOnOr_4 rfl ?_
              refine aw_icmp_ne (tgt := 45) hO dX12_goOnOr_5 rfl rfl (inRn (by omega)) (inRlit _) (fun c5 => ?_) (fun c5 => ?_)
              · refine aw_vret hO dX12_goOnOr_45 ?_
                exact ⟨rfl, hf_μ18, (PO_b (e0.symm.trans (rest_b hsep ((chn_g (sep := sepN) hx6).trans (by rw [← hs6]; exact hx15))))).mpr (hb_μ18.mono (by omega))⟩
              · exact absurd c5 (by omega)
            · obtain ⟨b15, hs15, hp_μ15⟩ := (PO_g hx15).mp ho_μ15
              have hle15 := hp_μ15.le
              have hchn : chn g (R g) sepN (sk g (q + 1)) = (q15, some t15) := (chn_g hx6).trans (by rw [← hs6]; exact hx15)
              obtain ⟨u1, u2, u3, u4, u5⟩ := (hGG2 (sk g (q + 1)) (sk_le hG (by omega))).2 q15 t15 hchn
              have hlen : (L ++ u ++ t15).length ≤ 240 := by rw [List.length_append, List.length_append]; omega
              refine aw_aload_n hO dX12_goOnOr_35 rfl rfl ?_
              refine aw_bipush hO dX12_goOnOr_36 rfl (by decide) (by decide) ?_
              refine aw_iconst hO dX12_goOnOr_38 rfl ?_
              refine aw_callVV (as := [vI 11, vI 0]) (st := []) hO dX12_goOnOr_39 rfl (lw_t6 199 rfl rfl) kX12_put (T := TX12) rfl (by decide) rfl (ctM_put μ15 hp_μ15.1.2.2.2.1 hp_μ15.1.2.2.2.2 hp_μ15.co (by omega) 11 0) (by omega) rfl rfl rfl (Nat.le_of_ble_eq_true rfl) (fun μ21 hq22 => ?_)
              have hp_μ21 := hp_μ15.put (by omega) 11 0
              rw [← hq22] at hp_μ21
              have hf_μ21 : Fr (sS τ) μ μ21 := by rw [hq22]; exact Fr_put hf_μ15 (by omega)
              refine aw_goto (tgt := 0) hO dX12_goOnOr_42 rfl ?_
              have hp9 := hp_μ21
              rw [List.append_assoc, List.append_assoc] at hp9
              exact ih b15 q15 (u ++ (t15 ++ [(11, 0)])) μ21 (by omega) hs15 (by simp only [List.length_append, List.length_cons, List.length_nil]; omega) ((rest_g hsep hchn).symm.trans e0) hf_μ21 hp9
  exact lp 241 a (sk g a) t μ (by omega) rfl hL rfl Fr.rf h
theorem dX12_condition_0 : decode cX12_condition 0 = .ok (.aload_n 0, 1) := by decide +kernel
theorem dX12_condition_1 : decode cX12_condition 1 = .ok (.invokevirtual 156, 3) := by decide +kernel
theorem dX12_condition_4 : decode cX12_condition 4 = .ok (.aload_n 0, 1) := by decide +kernel
theorem dX12_condition_5 : decode cX12_condition 5 = .ok (.invokevirtual 165, 3) := by decide +kernel
theorem dX12_condition_8 : decode cX12_condition 8 = .ok (.aload_n 0, 1) := by decide +kernel
theorem dX12_condition_9 : decode cX12_condition 9 = .ok (.invokevirtual 168, 3) := by decide +kernel
theorem dX12_condition_12 : decode cX12_condition 12 = .ok (.return_, 1) := by decide +kernel
set_option maxHeartbeats 4000000 in
set_option maxRecDepth 100000 in
theorem ctM_condition0 {d D B : Nat} {R : (Nat → Int) → Nat → PR} (hD : 3 ≤ D) (hB : 241 ≤ B) (hB5 : B < 500) (hI : CP D yX12_unit cX12_unit 2 d B R) (hR : GG R) (hA : CPt (D + 1) yX12_goOnAnd cX12_goOnAnd 1 d (B + 1) (fun g => rest g (R g) sepN 241)) (hR2 : GG (fun g => chn g (R g) sepN)) (hO1 : CPt (D + 2) yX12_goOnOr cX12_goOnOr 1 d (B + 2) (fun g => rest g (chn g (R g) sepN) sepO 241)) : CP (D + 3) yX12_condition cX12_condition 1 d (B + 2) (fun g => chn g (chn g (R g) sepN) sepO) := by
  intro g N τ a L μ h hL
  refine ct_intro [some (vR 0)] RX12 (by decide) rfl XM rfl (Nat.le_of_ble_eq_true rfl) (fun K hO => ?_)
  have hN := h.1.1.1
  have hG := h.G
  have hpN := sk_le hG h.le
  obtain ⟨W, hGG⟩ := hR g N hG
  obtain ⟨W2, hGG2⟩ := hR2 g N hG
  refine aw_aload_n hO dX12_condition_0 rfl rfl ?_
  refine aw_callVV (as := []) (st := []) hO dX12_condition_1 rfl (lw_t6 191 rfl rfl) kX12_unit (T := TX12) rfl (by decide) rfl (hI g N τ a L μ h hL) (by omega) rfl rfl rfl (Nat.le_of_ble_eq_true rfl) (fun μ2 hq3 => ?_)
  obtain ⟨hf0_μ2, ho_μ2⟩ := hq3
  have hf_μ2 : Fr (sS τ) μ μ2 := Fr.rf.tr hf0_μ2
  rcases hx2 : R g (sk g a) with ⟨q2, _ | t2⟩
  · have hb_μ2 := (PO_b hx2).mp ho_μ2
    have hqN2 := hb_μ2.2.1.2
    refine aw_aload_n hO dX12_condition_4 rfl rfl ?_
    refine aw_callVV (as := []) (st := []) hO dX12_condition_5 rfl (lw_t6 233 rfl rfl) kX12_goOnAnd (T := TX12) rfl (by decide) rfl (ctM_goOnAndB μ2 hb_μ2) (by omega) rfl rfl rfl (Nat.le_of_ble_eq_true rfl) (fun μ5 hq6 => ?_)
    subst hq6
    refine aw_aload_n hO dX12_condition_8 rfl rfl ?_
    refine aw_callVV (as := []) (st := []) hO dX12_condition_9 rfl (lw_t6 237 rfl rfl) kX12_goOnOr (T := TX12) rfl (by decide) rfl (ctM_goOnOrB μ5 hb_μ2) (by omega) rfl rfl rfl (Nat.le_of_ble_eq_true rfl) (fun μ8 hq9 => ?_)
    subst hq9
    refine aw_vret hO dX12_condition_12 ?_
    exact ⟨rfl, hf_μ2, (PO_b (chn_b (chn_b hx2))).mpr (hb_μ2.mono (by omega))⟩
  · obtain ⟨b2, hs2, hp_μ2⟩ := (PO_g hx2).mp ho_μ2
    have hle2 := hp_μ2.le
    obtain ⟨u1, u2, u3, u4, u5⟩ := (hGG (sk g a) hpN).2 q2 t2 hx2
    refine aw_aload_n hO dX12_condition_4 rfl rfl ?_
    refine aw_callVV (as := []) (st := []) hO dX12_condition_5 rfl (lw_t6 233 rfl rfl) kX12_goOnAnd (T := TX12) rfl (by decide) rfl (hA g N τ b2 L t2 μ2 hp_μ2 (by rw [hs2]; omega)) (by omega) rfl rfl rfl (Nat.le_of_ble_eq_true rfl) (fun μ11 hq12 => ?_)
    obtain ⟨hf0_μ11, ho_μ11⟩ := hq12
    have hf_μ11 : Fr (sS τ) μ μ11 := hf_μ2.tr hf0_μ11
    rcases hx11 : rest g (R g) sepN 241 (sk g b2) t2 with ⟨q11, _ | t11⟩
    · have hb_μ11 := (PO_b hx11).mp ho_μ11
      have hqN11 := hb_μ11.2.1.2
      refine aw_aload_n hO dX12_condition_8 rfl rfl ?_
      refine aw_callVV (as := []) (st := []) hO dX12_condition_9 rfl (lw_t6 237 rfl rfl) kX12_goOnOr (T := TX12) rfl (by decide) rfl (ctM_goOnOrB μ11 hb_μ11) (by omega) rfl rfl rfl (Nat.le_of_ble_eq_true rfl) (fun μ14 hq15 => ?_)
      subst hq15
      refine aw_vret hO dX12_condition_12 ?_
      exact ⟨rfl, hf_μ11, (PO_b (chn_b ((chn_g hx2).trans (by rw [← hs2]; exact hx11)))).mpr (hb_μ11.mono (by omega))⟩
    · obtain ⟨b11, hs11, hp_μ11⟩ := (PO_g hx11).mp ho_μ11
      have hle11 := hp_μ11.le
      have hchn : chn g (R g) sepN (sk g a) = (q11, some t11) := (chn_g hx2).trans (by rw [← hs2]; exact hx11)
      obtain ⟨v1, v2, v3, v4, v5⟩ := (hGG2 (sk g a) hpN).2 q11 t11 hchn
      refine aw_aload_n hO dX12_condition_8 rfl rfl ?_
      refine aw_callVV (as := []) (st := []) hO dX12_condition_9 rfl (lw_t6 237 rfl rfl) kX12_goOnOr (T := TX12) rfl (by decide) rfl (hO1 g N τ b11 L t11 μ11 hp_μ11 (by rw [hs11]; omega)) (by omega) rfl rfl rfl (Nat.le_of_ble_eq_true rfl) (fun μ17 hq18 => ?_)
      obtain ⟨hf0_μ17, ho_μ17⟩ := hq18
      have hf_μ17 : Fr (sS τ) μ μ17 := hf_μ11.tr hf0_μ17
      rcases hx17 : rest g (chn g (R g) sepN) sepO 241 (sk g b11) t11 with ⟨q17, _ | t17⟩
      · have hb_μ17 := (PO_b hx17).mp ho_μ17
        have hqN17 := hb_μ17.2.1.2
        refine aw_vret hO dX12_condition_12 ?_
        exact ⟨rfl, hf_μ17, (PO_b ((chn_g hchn).trans (by rw [← hs11]; exact hx17))).mpr (hb_μ17.mono (by omega))⟩
      · obtain ⟨b17, hs17, hp_μ17⟩ := (PO_g hx17).mp ho_μ17
        have hle17 := hp_μ17.le
        refine aw_vret hO dX12_condition_12 ?_
        exact ⟨rfl, hf_μ17, (PO_g ((chn_g hchn).trans (by rw [← hs11]; exact hx17))).mpr ⟨b17, hs17, hp_μ17⟩⟩

theorem GG_unit (r : Nat) : GG (fun g => pUnit g r) := fun _ _ hG => ⟨_, pUnit_G hG r⟩
theorem GG_and (r : Nat) : GG (fun g => chn g (pUnit g r) sepN) := fun _ _ hG => ⟨_, pAnd_G hG r⟩
theorem GG_cond (r : Nat) : GG (fun g => pCond g r) := fun _ _ hG => ⟨_, pCond_G hG r⟩
theorem ctM_andU {r d : Nat} (hr : r ≤ 6) (h : CP (7 + 4 * r) yX12_unit cX12_unit 2 d (253 + 6 * r) (fun g => pUnit g r)) : CPt (8 + 4 * r) yX12_goOnAnd cX12_goOnAnd 1 d (254 + 6 * r) (fun g => rest g (pUnit g r) sepN 241) := by
  have := ctM_goOnAnd0 (by omega) (by omega) (by omega) h (GG_unit r)
  rw [show 8 + 4 * r = 7 + 4 * r + 1 by omega, show 254 + 6 * r = 253 + 6 * r + 1 by omega]
  exact this
theorem ctM_orU {r d : Nat} (hr : r ≤ 6) (h : CP (7 + 4 * r) yX12_unit cX12_unit 2 d (253 + 6 * r) (fun g => pUnit g r)) : CPt (9 + 4 * r) yX12_goOnOr cX12_goOnOr 1 d (255 + 6 * r) (fun g => rest g (chn g (pUnit g r) sepN) sepO 241) := by
  have := ctM_goOnOr0 (by omega) (by omega) (by omega) h (GG_unit r) (ctM_goOnAnd0 (by omega) (by omega) (by omega) h (GG_unit r)) (GG_and r)
  rw [show 9 + 4 * r = 7 + 4 * r + 2 by omega, show 255 + 6 * r = 253 + 6 * r + 2 by omega]
  exact this
theorem ctM_condU {r d : Nat} (hr : r ≤ 6) (h : CP (7 + 4 * r) yX12_unit cX12_unit 2 d (253 + 6 * r) (fun g => pUnit g r)) : CP (10 + 4 * r) yX12_condition cX12_condition 1 d (255 + 6 * r) (fun g => pCond g r) := by
  have := ctM_condition0 (by omega) (by omega) (by omega) h (GG_unit r) (ctM_goOnAnd0 (by omega) (by omega) (by omega) h (GG_unit r)) (GG_and r) (ctM_goOnOr0 (by omega) (by omega) (by omega) h (GG_unit r) (ctM_goOnAnd0 (by omega) (by omega) (by omega) h (GG_unit r)) (GG_and r))
  rw [show 10 + 4 * r = 7 + 4 * r + 3 by omega, show 255 + 6 * r = 253 + 6 * r + 2 by omega]
  exact this
theorem ctM_unit : ∀ (r d : Nat), d + r = 6 → CP (7 + 4 * r) yX12_unit cX12_unit 2 d (253 + 6 * r) (fun g => pUnit g r)
  | 0, d, hd => ctM_unit0 (U := fun _ q => (q, none)) (B' := 0) (r := 0) hd (by omega) (by omega) (fun e => absurd rfl e)
  | r + 1, d, hd => ctM_unit0 (U := fun g => pUnit g r) (B' := 253 + 6 * r) (r := r + 1) hd (by omega) (by omega) (fun _ => by
      have h1 := ctM_unit r (d + 1) (by omega)
      have h2 := ctM_condU (by omega) h1
      rw [show 7 + 4 * (r + 1) - 4 = 7 + 4 * r by omega, show 7 + 4 * (r + 1) - 1 = 10 + 4 * r by omega, show 253 + 6 * r + 2 = 255 + 6 * r by omega]
      exact ⟨h1, h2, GG_unit r, GG_cond r⟩)
