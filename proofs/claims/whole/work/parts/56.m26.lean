
/-! ## conditions, as the reference reads them -/
/-- a part of reading that goes on behind tokens t -/
def CPt (D : Nat) (y : MethodName) (cc : ByteArray) (nL dp B : Nat) (R : (Nat → Int) → Nat → List Tok → PR) : Prop := ∀ (g : Nat → Int) (N τ a : Nat) (L t : List Tok) (m : Mm), PS g N τ m a dp (L ++ t) → L.length + t.length ≤ sk g a → CtV PM D y cc nL none [vR 0] m (fun m2 => Fr (sS τ) m m2 ∧ PO g N τ dp L B (R g (sk g a) t) m2)
section
variable {g : Nat → Int} {r p q : Nat} {U : Nat → PR} {c : List Tok}
theorem pUn_n0 (h : g p = 33) (h4 : r = 0) : pUn g r U p = (p, none) := by unfold pUn; rw [if_pos h, if_pos h4]
theorem pUn_n (h : g p = 33) (h4 : r ≠ 0) : pUn g r U p = neg1 (U (sk g (p + 1))) := by unfold pUn; rw [if_pos h, if_neg h4]
theorem pUn_o0 (h : g p ≠ 33) (h2 : g p = 40) (h4 : r = 0) : pUn g r U p = (p, none) := by unfold pUn; rw [if_neg h, if_pos h2, if_pos h4]
theorem pUn_o (h : g p ≠ 33) (h2 : g p = 40) (h4 : r ≠ 0) : pUn g r U p = shut g 41 (condOf g U (sk g (p + 1))) := by unfold pUn; rw [if_neg h, if_pos h2, if_neg h4]
theorem pUn_s (h : g p ≠ 33) (h2 : g p ≠ 40) : pUn g r U p = cmpOf g r (pSum g r p) := by unfold pUn; rw [if_neg h, if_neg h2]
end
theorem dX12_compare_0 : decode cX12_compare 0 = .ok (.aload_n 0, 1) := by decide +kernel
theorem dX12_compare_1 : decode cX12_compare 1 = .ok (.getfield 107, 3) := by decide +kernel
theorem dX12_compare_4 : decode cX12_compare 4 = .ok (.iconst (-1), 1) := by decide +kernel
theorem dX12_compare_5 : decode cX12_compare 5 = .ok (.if_icmp .ne 10, 3) := by decide +kernel
theorem dX12_compare_8 : decode cX12_compare 8 = .ok (.aload_n 0, 1) := by decide +kernel
theorem dX12_compare_9 : decode cX12_compare 9 = .ok (.invokevirtual 119, 3) := by decide +kernel
theorem dX12_compare_12 : decode cX12_compare 12 = .ok (.goto 4, 3) := by decide +kernel
theorem dX12_compare_15 : decode cX12_compare 15 = .ok (.iconst (-1), 1) := by decide +kernel
theorem dX12_compare_16 : decode cX12_compare 16 = .ok (.istore_n 1, 1) := by decide +kernel
theorem dX12_compare_17 : decode cX12_compare 17 = .ok (.iload_n 1, 1) := by decide +kernel
theorem dX12_compare_18 : decode cX12_compare 18 = .ok (.invokestatic 153, 3) := by decide +kernel
theorem dX12_compare_21 : decode cX12_compare 21 = .ok (.ifCond .ne 8, 3) := by decide +kernel
theorem dX12_compare_24 : decode cX12_compare 24 = .ok (.aload_n 0, 1) := by decide +kernel
theorem dX12_compare_25 : decode cX12_compare 25 = .ok (.invokevirtual 116, 3) := by decide +kernel
theorem dX12_compare_28 : decode cX12_compare 28 = .ok (.return_, 1) := by decide +kernel
theorem dX12_compare_29 : decode cX12_compare 29 = .ok (.aload_n 0, 1) := by decide +kernel
theorem dX12_compare_30 : decode cX12_compare 30 = .ok (.dup, 1) := by decide +kernel
theorem dX12_compare_31 : decode cX12_compare 31 = .ok (.getfield 100, 3) := by decide +kernel
theorem dX12_compare_34 : decode cX12_compare 34 = .ok (.iconst 1, 1) := by decide +kernel
theorem dX12_compare_35 : decode cX12_compare 35 = .ok (.iadd, 1) := by decide +kernel
theorem dX12_compare_36 : decode cX12_compare 36 = .ok (.putfield 100, 3) := by decide +kernel
theorem dX12_compare_39 : decode cX12_compare 39 = .ok (.aload_n 0, 1) := by decide +kernel
theorem dX12_compare_40 : decode cX12_compare 40 = .ok (.invokevirtual 140, 3) := by decide +kernel
theorem dX12_compare_43 : decode cX12_compare 43 = .ok (.aload_n 0, 1) := by decide +kernel
theorem dX12_compare_44 : decode cX12_compare 44 = .ok (.iload_n 1, 1) := by decide +kernel
theorem dX12_compare_45 : decode cX12_compare 45 = .ok (.bipush 61, 2) := by decide +kernel
theorem dX12_compare_47 : decode cX12_compare 47 = .ok (.if_icmp .ne 8, 3) := by decide +kernel
theorem dX12_compare_50 : decode cX12_compare 50 = .ok (.bipush 6, 2) := by decide +kernel
theorem dX12_compare_52 : decode cX12_compare 52 = .ok (.goto 16, 3) := by decide +kernel
theorem dX12_compare_55 : decode cX12_compare 55 = .ok (.iload_n 1, 1) := by decide +kernel
theorem dX12_compare_56 : decode cX12_compare 56 = .ok (.bipush 60, 2) := by decide +kernel
theorem dX12_compare_58 : decode cX12_compare 58 = .ok (.if_icmp .ne 8, 3) := by decide +kernel
theorem dX12_compare_61 : decode cX12_compare 61 = .ok (.bipush 7, 2) := by decide +kernel
theorem dX12_compare_63 : decode cX12_compare 63 = .ok (.goto 5, 3) := by decide +kernel
theorem dX12_compare_66 : decode cX12_compare 66 = .ok (.bipush 8, 2) := by decide +kernel
theorem dX12_compare_68 : decode cX12_compare 68 = .ok (.iconst 0, 1) := by decide +kernel
theorem dX12_compare_69 : decode cX12_compare 69 = .ok (.invokevirtual 129, 3) := by decide +kernel
theorem dX12_compare_72 : decode cX12_compare 72 = .ok (.return_, 1) := by decide +kernel
set_option maxHeartbeats 4000000 in
set_option maxRecDepth 100000 in
theorem ctM_compare (r d : Nat) (hd : d + r = 6) : CPt (6 + 3 * r) yX12_compare cX12_compare 2 d (253 + 6 * r) (fun g => pCmp g r) := by
  intro g N τ a L t μ h hL
  refine ct_intro [some (vR 0), none] RX12 (by decide) rfl XM rfl (Nat.le_of_ble_eq_true rfl) (fun K hO => ?_)
  have hN := h.1.1.1
  have hG := h.G
  have hpN := sk_le hG h.le
  obtain ⟨W, hGG⟩ := GG_sum r g N hG
  have hll : (L ++ t).length ≤ 240 := by rw [List.length_append]; omega
  have hsg := sk_ge g (sk g a + 1)
  have hBB : ∃ B, B = 253 + 6 * r := ⟨_, rfl⟩
  obtain ⟨B, hBe⟩ := hBB
  refine aw_aload_n hO dX12_compare_0 rfl rfl ?_
  refine gM_wrong hO dX12_compare_1 rfl ?_
  refine aw_cg h.wr ?_
  refine aw_iconst hO dX12_compare_4 rfl ?_
  refine aw_icmp_ne (tgt := 15) hO dX12_compare_5 rfl rfl (inRlit _) (inRlit _) (fun c5 => ?_) (fun c5 => ?_)
  · exact absurd c5 (by omega)
  · refine aw_aload_n hO dX12_compare_8 rfl rfl ?_
    refine aw_callVE (as := []) (st := []) hO dX12_compare_9 rfl (lw_t6 140 rfl rfl) kX12_look (T := TX12) rfl (by decide) rfl (ctM_look μ h.1 h.at h.le) (by omega) rfl rfl rfl (Nat.le_of_ble_eq_true rfl) (fun v1 μ2 hq3 => ?_)
    obtain ⟨e_v1, e_μ2⟩ := hq3
    subst e_v1
    have hp_μ2 := h.look
    rw [← e_μ2] at hp_μ2
    have hf_μ2 : Fr (sS τ) μ μ2 := by rw [e_μ2]; exact Fr.rf.st sS_at _
    have hr_μ2 := h.G.rng (sk g a)
    refine aw_goto (tgt := 16) hO dX12_compare_12 rfl ?_
    refine aw_istore_n (ls' := [some (vR 0), some (vI (g (sk g a)))]) hO dX12_compare_16 rfl (Nat.le_of_ble_eq_true rfl) rfl rfl ?_
    refine aw_iload_n hO dX12_compare_17 rfl rfl ?_
    refine aw_callSI (as := [vI (g (sk g a))]) (st := []) hO dX12_compare_18 rfl (lw_t6 230 rfl rfl) kX12_isSign (ctM_isSign μ2 (v := g (sk g a)) ⟨by omega, by omega⟩) (by omega) rfl rfl rfl (Nat.le_of_ble_eq_true rfl) ?_
    refine aw_ifz_ne (tgt := 29) hO dX12_compare_21 rfl rfl (fun c21 => ?_) (fun c21 => ?_)
    · have hlt := hG.lt (p := sk g a) (fun e => by rw [e] at c21; exact absurd c21 (by decide))
      refine aw_aload_n hO dX12_compare_29 rfl rfl ?_
      refine aw_dup hO dX12_compare_30 rfl rfl ?_
      refine gM_at hO dX12_compare_31 rfl ?_
      refine aw_cg hp_μ2.at ?_
      refine aw_iconst hO dX12_compare_34 rfl ?_
      refine aw_iadd hO dX12_compare_35 rfl ?_
      refine pM_at hO dX12_compare_36 rfl ?_
      refine aw_mm (fun μ4 e_μ4 => ?_)
      have hf_μ4 : Fr (sS τ) μ μ4 := by rw [e_μ4]; exact hf_μ2.st sS_at _
      have hp_μ4 := hp_μ2.to (b := ((sk g a) + 1)) (by omega)
      rw [show ((((sk g a) + 1) : Nat) : Int) = (((sk g a) : Nat) : Int) + 1 from rfl, ← e_μ4] at hp_μ4
      refine aw_aload_n hO dX12_compare_39 rfl rfl ?_
      refine aw_callVV (as := []) (st := []) hO dX12_compare_40 rfl (lw_t6 207 rfl rfl) kX12_sum (T := TX12) rfl (by decide) rfl (ctM_sum r d hd g N τ (sk g a + 1) (L ++ t) μ4 hp_μ4 (by rw [List.length_append]; omega)) (by omega) rfl rfl rfl (Nat.le_of_ble_eq_true rfl) (fun μ6 hq7 => ?_)
      obtain ⟨hf0_μ6, ho_μ6⟩ := hq7
      have hf_μ6 : Fr (sS τ) μ μ6 := hf_μ4.tr hf0_μ6
      rcases hx6 : pSum g r (sk g (sk g a + 1)) with ⟨q6, _ | t6⟩
      · have hb_μ6 := (PO_b hx6).mp ho_μ6
        have hqN6 := hb_μ6.2.1.2
        refine aw_aload_n hO dX12_compare_43 rfl rfl ?_
        refine aw_iload_n hO dX12_compare_44 rfl rfl ?_
        refine aw_bipush hO dX12_compare_45 rfl (by decide) (by decide) ?_
        refine aw_icmp_ne (tgt := 55) hO dX12_compare_47 rfl rfl ⟨by omega, by omega⟩ (inRlit _) (fun c47 => ?_) (fun c47 => ?_)
        · refine aw_iload_n hO dX12_compare_55 rfl rfl ?_
          refine aw_bipush hO dX12_compare_56 rfl (by decide) (by decide) ?_
          refine aw_icmp_ne (tgt := 66) hO dX12_compare_58 rfl rfl ⟨by omega, by omega⟩ (inRlit _) (fun c58 => ?_) (fun c58 => ?_)
          · refine aw_bipush hO dX12_compare_66 rfl (by decide) (by decide) ?_
            refine aw_iconst hO dX12_compare_68 rfl ?_
            have hsep : sepR (g (sk g a)) = some 8 := by
              have := c21
              unfold sepR at this ⊢
              rw [if_neg c47, if_neg c58] at this ⊢
              by_cases e : g (sk g a) = 62
              · rw [if_pos e]
              · rw [if_neg e] at this; exact absurd this (by simp)
            obtain ⟨k_μ6, hk_μ6, hk2_μ6⟩ := hb_μ6.k (by omega)
            refine aw_callVV (as := [vI 8, vI 0]) (st := []) hO dX12_compare_69 rfl (lw_t6 199 rfl rfl) kX12_put (T := TX12) rfl (by decide) rfl (ctM_put μ6 hb_μ6.1.2.2.2.1 hb_μ6.1.2.2.2.2 hk_μ6 hk2_μ6 8 0) (by omega) rfl rfl rfl (Nat.le_of_ble_eq_true rfl) (fun μ9 hq10 => ?_)
            have hb_μ9 := hb_μ6.put hk_μ6 hk2_μ6 8 0
            rw [← hq10] at hb_μ9
            have hf_μ9 : Fr (sS τ) μ μ9 := by rw [hq10]; exact Fr_put hf_μ6 hk2_μ6
            refine aw_vret hO dX12_compare_72 ?_
            exact ⟨rfl, hf_μ9, (PO_b (pCmp_b hsep hx6)).mpr (hb_μ9.mono (by omega))⟩
          · refine aw_bipush hO dX12_compare_61 rfl (by decide) (by decide) ?_
            refine aw_goto (tgt := 68) hO dX12_compare_63 rfl ?_
            refine aw_iconst hO dX12_compare_68 rfl ?_
            have hsep : sepR (g (sk g a)) = some 7 := by unfold sepR; rw [if_neg c47, if_pos c58]
            obtain ⟨k_μ6, hk_μ6, hk2_μ6⟩ := hb_μ6.k (by omega)
            refine aw_callVV (as := [vI 7, vI 0]) (st := []) hO dX12_compare_69 rfl (lw_t6 199 rfl rfl) kX12_put (T := TX12) rfl (by decide) rfl (ctM_put μ6 hb_μ6.1.2.2.2.1 hb_μ6.1.2.2.2.2 hk_μ6 hk2_μ6 7 0) (by omega) rfl rfl rfl (Nat.le_of_ble_eq_true rfl) (fun μ12 hq13 => ?_)
            have hb_μ12 := hb_μ6.put hk_μ6 hk2_μ6 7 0
            rw [← hq13] at hb_μ12
            have hf_μ12 : Fr (sS τ) μ μ12 := by rw [hq13]; exact Fr_put hf_μ6 hk2_μ6
            refine aw_vret hO dX12_compare_72 ?_
            exact ⟨rfl, hf_μ12, (PO_b (pCmp_b hsep hx6)).mpr (hb_μ12.mono (by omega))⟩
        · refine aw_bipush hO dX12_compare_50 rfl (by decide) (by decide) ?_
          refine aw_goto (tgt := 68) hO dX12_compare_52 rfl ?_
          refine aw_iconst hO dX12_compare_68 rfl ?_
          have hsep : sepR (g (sk g a)) = some 6 := by unfold sepR; rw [if_pos c47]
          obtain ⟨k_μ6, hk_μ6, hk2_μ6⟩ := hb_μ6.k (by omega)
          refine aw_callVV (as := [vI 6, vI 0]) (st := []) hO dX12_compare_69 rfl (lw_t6 199 rfl rfl) kX12_put (T := TX12) rfl (by decide) rfl (ctM_put μ6 hb_μ6.1.2.2.2.1 hb_μ6.1.2.2.2.2 hk_μ6 hk2_μ6 6 0) (by omega) rfl rfl rfl (Nat.le_of_ble_eq_true rfl) (fun μ15 hq16 => ?_)
          have hb_μ15 := hb_μ6.put hk_μ6 hk2_μ6 6 0
          rw [← hq16] at hb_μ15
          have hf_μ15 : Fr (sS τ) μ μ15 := by rw [hq16]; exact Fr_put hf_μ6 hk2_μ6
          refine aw_vret hO dX12_compare_72 ?_
          exact ⟨rfl, hf_μ15, (PO_b (pCmp_b hsep hx6)).mpr (hb_μ15.mono (by omega))⟩
      · obtain ⟨b6, hs6, hp_μ6⟩ := (PO_g hx6).mp ho_μ6
        have hle6 := hp_μ6.le
        obtain ⟨u1, u2, u3, u4, u5⟩ := (hGG (sk g (sk g a + 1)) (sk_le hG (by omega))).2 q6 t6 hx6
        have hlen : (L ++ t ++ t6).length ≤ 240 := by rw [List.length_append, List.length_append]; omega
        refine aw_aload_n hO dX12_compare_43 rfl rfl ?_
        refine aw_iload_n hO dX12_compare_44 rfl rfl ?_
        refine aw_bipush hO dX12_compare_45 rfl (by decide) (by decide) ?_
        refine aw_icmp_ne (tgt := 55) hO dX12_compare_47 rfl rfl ⟨by omega, by omega⟩ (inRlit _) (fun c47 => ?_) (fun c47 => ?_)
        · refine aw_iload_n hO dX12_compare_55 rfl rfl ?_
          refine aw_bipush hO dX12_compare_56 rfl (by decide) (by decide) ?_
          refine aw_icmp_ne (tgt := 66) hO dX12_compare_58 rfl rfl ⟨by omega, by omega⟩ (inRlit _) (fun c58 => ?_) (fun c58 => ?_)
          · refine aw_bipush hO dX12_compare_66 rfl (by decide) (by decide) ?_
            refine aw_iconst hO dX12_compare_68 rfl ?_
            have hsep : sepR (g (sk g a)) = some 8 := by
              have := c21
              unfold sepR at this ⊢
              rw [if_neg c47, if_neg c58] at this ⊢
              by_cases e : g (sk g a) = 62
              · rw [if_pos e]
              · rw [if_neg e] at this; exact absurd this (by simp)
            refine aw_callVV (as := [vI 8, vI 0]) (st := []) hO dX12_compare_69 rfl (lw_t6 199 rfl rfl) kX12_put (T := TX12) rfl (by decide) rfl (ctM_put μ6 hp_μ6.1.2.2.2.1 hp_μ6.1.2.2.2.2 hp_μ6.co (by omega) 8 0) (by omega) rfl rfl rfl (Nat.le_of_ble_eq_true rfl) (fun μ18 hq19 => ?_)
            have hp_μ18 := hp_μ6.put (by omega) 8 0
            rw [← hq19] at hp_μ18
            have hf_μ18 : Fr (sS τ) μ μ18 := by rw [hq19]; exact Fr_put hf_μ6 (by omega)
            refine aw_vret hO dX12_compare_72 ?_
            exact ⟨rfl, hf_μ18, (PO_g (pCmp_g hsep hx6)).mpr ⟨b6, hs6, by have hp9 := hp_μ18; rw [List.append_assoc, List.append_assoc] at hp9; exact hp9⟩⟩
          · refine aw_bipush hO dX12_compare_61 rfl (by decide) (by decide) ?_
            refine aw_goto (tgt := 68) hO dX12_compare_63 rfl ?_
            refine aw_iconst hO dX12_compare_68 rfl ?_
            have hsep : sepR (g (sk g a)) = some 7 := by unfold sepR; rw [if_neg c47, if_pos c58]
            refine aw_callVV (as := [vI 7, vI 0]) (st := []) hO dX12_compare_69 rfl (lw_t6 199 rfl rfl) kX12_put (T := TX12) rfl (by decide) rfl (ctM_put μ6 hp_μ6.1.2.2.2.1 hp_μ6.1.2.2.2.2 hp_μ6.co (by omega) 7 0) (by omega) rfl rfl rfl (Nat.le_of_ble_eq_true rfl) (fun μ21 hq22 => ?_)
            have hp_μ21 := hp_μ6.put (by omega) 7 0
            rw [← hq22] at hp_μ21
            have hf_μ21 : Fr (sS τ) μ μ21 := by rw [hq22]; exact Fr_put hf_μ6 (by omega)
            refine aw_vret hO dX12_compare_72 ?_
            exact ⟨rfl, hf_μ21, (PO_g (pCmp_g hsep hx6)).mpr ⟨b6, hs6, by have hp9 := hp_μ21; rw [List.append_assoc, List.append_assoc] at hp9; exact hp9⟩⟩
        · refine aw_bipush hO dX12_compare_50 rfl (by decide) (by decide) ?_
          refine aw_goto (tgt := 68) hO dX12_compare_52 rfl ?_
          refine aw_iconst hO dX12_compare_68 rfl ?_
          have hsep : sepR (g (sk g a)) = some 6 := by unfold sepR; rw [if_pos c47]
          refine aw_callVV (as := [vI 6, vI 0]) (st := []) hO dX12_compare_69 rfl (lw_t6 199 rfl rfl) kX12_put (T := TX12) rfl (by decide) rfl (ctM_put μ6 hp_μ6.1.2.2.2.1 hp_μ6.1.2.2.2.2 hp_μ6.co (by omega) 6 0) (by omega) rfl rfl rfl (Nat.le_of_ble_eq_true rfl) (fun μ24 hq25 => ?_)
          have hp_μ24 := hp_μ6.put (by omega) 6 0
          rw [← hq25] at hp_μ24
          have hf_μ24 : Fr (sS τ) μ μ24 := by rw [hq25]; exact Fr_put hf_μ6 (by omega)
          refine aw_vret hO dX12_compare_72 ?_
          exact ⟨rfl, hf_μ24, (PO_g (pCmp_g hsep hx6)).mpr ⟨b6, hs6, by have hp9 := hp_μ24; rw [List.append_assoc, List.append_assoc] at hp9; exact hp9⟩⟩
    · refine aw_aload_n hO dX12_compare_24 rfl rfl ?_
      refine aw_callVV (as := []) (st := []) hO dX12_compare_25 rfl (lw_t6 168 rfl rfl) kX12_bad (T := TX12) rfl (by decide) rfl (ctM_bad μ2 hp_μ2.at hp_μ2.wr) (by omega) rfl rfl rfl (Nat.le_of_ble_eq_true rfl) (fun μ27 hq28 => ?_)
      have hb_μ27 := hp_μ2.bad (B := B) (by omega)
      rw [← hq28] at hb_μ27
      have hf_μ27 : Fr (sS τ) μ μ27 := by rw [hq28]; exact hf_μ2.st sS_wr _
      refine aw_vret hO dX12_compare_28 ?_
      exact ⟨rfl, hf_μ27, (PO_b (pCmp_n (Option.not_isSome_iff_eq_none.mp c21))).mpr (hb_μ27.mono (by omega))⟩
theorem dX12_unit_0 : decode cX12_unit 0 = .ok (.aload_n 0, 1) := by decide +kernel
theorem dX12_unit_1 : decode cX12_unit 1 = .ok (.invokevirtual 119, 3) := by decide +kernel
theorem dX12_unit_4 : decode cX12_unit 4 = .ok (.istore_n 1, 1) := by decide +kernel
theorem dX12_unit_5 : decode cX12_unit 5 = .ok (.iload_n 1, 1) := by decide +kernel
theorem dX12_unit_6 : decode cX12_unit 6 = .ok (.bipush 33, 2) := by decide +kernel
theorem dX12_unit_8 : decode cX12_unit 8 = .ok (.if_icmp .ne 39, 3) := by decide +kernel
theorem dX12_unit_11 : decode cX12_unit 11 = .ok (.aload_n 0, 1) := by decide +kernel
theorem dX12_unit_12 : decode cX12_unit 12 = .ok (.invokevirtual 137, 3) := by decide +kernel
theorem dX12_unit_15 : decode cX12_unit 15 = .ok (.aload_n 0, 1) := by decide +kernel
theorem dX12_unit_16 : decode cX12_unit 16 = .ok (.getfield 107, 3) := by decide +kernel
theorem dX12_unit_19 : decode cX12_unit 19 = .ok (.iconst (-1), 1) := by decide +kernel
theorem dX12_unit_20 : decode cX12_unit 20 = .ok (.if_icmp .ne 74, 3) := by decide +kernel
theorem dX12_unit_23 : decode cX12_unit 23 = .ok (.aload_n 0, 1) := by decide +kernel
theorem dX12_unit_24 : decode cX12_unit 24 = .ok (.invokevirtual 156, 3) := by decide +kernel
theorem dX12_unit_27 : decode cX12_unit 27 = .ok (.aload_n 0, 1) := by decide +kernel
theorem dX12_unit_28 : decode cX12_unit 28 = .ok (.bipush 9, 2) := by decide +kernel
theorem dX12_unit_30 : decode cX12_unit 30 = .ok (.iconst 0, 1) := by decide +kernel
theorem dX12_unit_31 : decode cX12_unit 31 = .ok (.invokevirtual 129, 3) := by decide +kernel
theorem dX12_unit_34 : decode cX12_unit 34 = .ok (.aload_n 0, 1) := by decide +kernel
theorem dX12_unit_35 : decode cX12_unit 35 = .ok (.dup, 1) := by decide +kernel
theorem dX12_unit_36 : decode cX12_unit 36 = .ok (.getfield 113, 3) := by decide +kernel
theorem dX12_unit_39 : decode cX12_unit 39 = .ok (.iconst 1, 1) := by decide +kernel
theorem dX12_unit_40 : decode cX12_unit 40 = .ok (.isub, 1) := by decide +kernel
theorem dX12_unit_41 : decode cX12_unit 41 = .ok (.putfield 113, 3) := by decide +kernel
theorem dX12_unit_44 : decode cX12_unit 44 = .ok (.goto 50, 3) := by decide +kernel
theorem dX12_unit_47 : decode cX12_unit 47 = .ok (.iload_n 1, 1) := by decide +kernel
theorem dX12_unit_48 : decode cX12_unit 48 = .ok (.bipush 40, 2) := by decide +kernel
theorem dX12_unit_50 : decode cX12_unit 50 = .ok (.if_icmp .ne 28, 3) := by decide +kernel
theorem dX12_unit_53 : decode cX12_unit 53 = .ok (.aload_n 0, 1) := by decide +kernel
theorem dX12_unit_54 : decode cX12_unit 54 = .ok (.invokevirtual 137, 3) := by decide +kernel
theorem dX12_unit_57 : decode cX12_unit 57 = .ok (.aload_n 0, 1) := by decide +kernel
theorem dX12_unit_58 : decode cX12_unit 58 = .ok (.getfield 107, 3) := by decide +kernel
theorem dX12_unit_61 : decode cX12_unit 61 = .ok (.iconst (-1), 1) := by decide +kernel
theorem dX12_unit_62 : decode cX12_unit 62 = .ok (.if_icmp .ne 32, 3) := by decide +kernel
theorem dX12_unit_65 : decode cX12_unit 65 = .ok (.aload_n 0, 1) := by decide +kernel
theorem dX12_unit_66 : decode cX12_unit 66 = .ok (.invokevirtual 159, 3) := by decide +kernel
theorem dX12_unit_69 : decode cX12_unit 69 = .ok (.aload_n 0, 1) := by decide +kernel
theorem dX12_unit_70 : decode cX12_unit 70 = .ok (.bipush 41, 2) := by decide +kernel
theorem dX12_unit_72 : decode cX12_unit 72 = .ok (.invokevirtual 143, 3) := by decide +kernel
theorem dX12_unit_75 : decode cX12_unit 75 = .ok (.goto 19, 3) := by decide +kernel
theorem dX12_unit_78 : decode cX12_unit 78 = .ok (.aload_n 0, 1) := by decide +kernel
theorem dX12_unit_79 : decode cX12_unit 79 = .ok (.invokevirtual 140, 3) := by decide +kernel
theorem dX12_unit_82 : decode cX12_unit 82 = .ok (.aload_n 0, 1) := by decide +kernel
theorem dX12_unit_83 : decode cX12_unit 83 = .ok (.getfield 107, 3) := by decide +kernel
theorem dX12_unit_86 : decode cX12_unit 86 = .ok (.iconst (-1), 1) := by decide +kernel
theorem dX12_unit_87 : decode cX12_unit 87 = .ok (.if_icmp .ne 7, 3) := by decide +kernel
theorem dX12_unit_90 : decode cX12_unit 90 = .ok (.aload_n 0, 1) := by decide +kernel
theorem dX12_unit_91 : decode cX12_unit 91 = .ok (.invokevirtual 162, 3) := by decide +kernel
theorem dX12_unit_94 : decode cX12_unit 94 = .ok (.return_, 1) := by decide +kernel
set_option maxHeartbeats 4000000 in
set_option maxRecDepth 100000 in
theorem ctM_unit0 {r d D B' : Nat} {U : (Nat → Int) → Nat → PR} (hd : d + r = 6) (hD : 7 + 3 * r ≤ D) (hBB : B' + 2 ≤ 253 + 6 * r) (hU : r ≠ 0 → CP (D - 4) yX12_unit cX12_unit 2 (d + 1) B' U ∧ CP (D - 1) yX12_condition cX12_condition 1 (d + 1) (B' + 2) (fun g => condOf g (U g)) ∧ GG U ∧ GG (fun g => condOf g (U g))) : CP D yX12_unit cX12_unit 2 d (253 + 6 * r) (fun g => pUn g r (U g)) := by
  intro g N τ a L μ h hL
  refine ct_intro [some (vR 0), none] RX12 (by decide) rfl XM rfl (Nat.le_of_ble_eq_true rfl) (fun K hO => ?_)
  have hN := h.1.1.1
  have hG := h.G
  have hpN := sk_le hG h.le
  have hsg := sk_ge g (sk g a + 1)
  have hsg0 := sk_ge g a
  obtain ⟨WS_, hGS⟩ := GG_sum r g N hG
  obtain ⟨WW, hGG⟩ := id (show r ≠ 0 → ∃ W, PGd g N W (U g) from fun e => (hU e).2.2.1 g N hG) |> fun f => (Classical.em (r = 0)).elim (fun e => (⟨fun _ => True, fun k => absurd e k⟩ : ∃ W, r ≠ 0 → PGd g N W (U g))) (fun e => (f e).elim (fun W hW => ⟨W, fun _ => hW⟩))
  obtain ⟨WC, hGC⟩ := id (show r ≠ 0 → ∃ W, PGd g N W (condOf g (U g)) from fun e => (hU e).2.2.2 g N hG) |> fun f => (Classical.em (r = 0)).elim (fun e => (⟨fun _ => True, fun k => absurd e k⟩ : ∃ W, r ≠ 0 → PGd g N W (condOf g (U g)))) (fun e => (f e).elim (fun W hW => ⟨W, fun _ => hW⟩))
  refine aw_aload_n hO dX12_unit_0 rfl rfl ?_
  refine aw_callVE (as := []) (st := []) hO dX12_unit_1 rfl (lw_t6 140 rfl rfl) kX12_look (T := TX12) rfl (by decide) rfl (ctM_look μ h.1 h.at h.le) (by omega) rfl rfl rfl (Nat.le_of_ble_eq_true rfl) (fun v1 μ2 hq3 => ?_)
  obtain ⟨e_v1, e_μ2⟩ := hq3
  subst e_v1
  have hp_μ2 := h.look
  rw [← e_μ2] at hp_μ2
  have hf_μ2 : Fr (sS τ) μ μ2 := by rw [e_μ2]; exact Fr.rf.st sS_at _
  have hr_μ2 := h.G.rng (sk g a)
  refine aw_istore_n (ls' := [some (vR 0), some (vI (g (sk g a)))]) hO dX12_unit_4 rfl (Nat.le_of_ble_eq_true rfl) rfl rfl ?_
  refine aw_iload_n hO dX12_unit_5 rfl rfl ?_
  refine aw_bipush hO dX12_unit_6 rfl (by decide) (by decide) ?_
  refine aw_icmp_ne (tgt := 47) hO dX12_unit_8 rfl rfl ⟨by omega, by omega⟩ (inRlit _) (fun c8 => ?_) (fun c8 => ?_)
  · refine aw_iload_n hO dX12_unit_47 rfl rfl ?_
    refine aw_bipush hO dX12_unit_48 rfl (by decide) (by decide) ?_
    refine aw_icmp_ne (tgt := 78) hO dX12_unit_50 rfl rfl ⟨by omega, by omega⟩ (inRlit _) (fun c50 => ?_) (fun c50 => ?_)
    · refine aw_aload_n hO dX12_unit_78 rfl rfl ?_
      refine aw_callVV (as := []) (st := []) hO dX12_unit_79 rfl (lw_t6 207 rfl rfl) kX12_sum (T := TX12) rfl (by decide) rfl (ctM_sum r d hd g N τ (sk g a) L μ2 hp_μ2 (by rw [sk_sk hG]; exact hL)) (by omega) rfl rfl rfl (Nat.le_of_ble_eq_true rfl) (fun μ5 hq6 => ?_)
      obtain ⟨hf0_μ5, ho_μ5⟩ := hq6
      have hf_μ5 : Fr (sS τ) μ μ5 := hf_μ2.tr hf0_μ5
      rcases hx5 : pSum g r (sk g (sk g a)) with ⟨q5, _ | t5⟩
      · have hb_μ5 := (PO_b hx5).mp ho_μ5
        have hqN5 := hb_μ5.2.1.2
        refine aw_aload_n hO dX12_unit_82 rfl rfl ?_
        refine gM_wrong hO dX12_unit_83 rfl ?_
        refine aw_cg hb_μ5.2.1.1 ?_
        refine aw_iconst hO dX12_unit_86 rfl ?_
        refine aw_icmp_ne (tgt := 94) hO dX12_unit_87 rfl rfl (inRn (by omega)) (inRlit _) (fun c87 => ?_) (fun c87 => ?_)
        · refine aw_vret hO dX12_unit_94 ?_
          exact ⟨rfl, hf_μ5, (PO_b ((pUn_s c8 c50).trans (by rw [← sk_sk hG a, hx5]; rfl))).mpr (hb_μ5.mono (by omega))⟩
        · exact absurd c87 (by omega)
      · obtain ⟨b5, hs5, hp_μ5⟩ := (PO_g hx5).mp ho_μ5
        have hle5 := hp_μ5.le
        rw [sk_sk hG] at hx5
        obtain ⟨u1, u2, u3, u4, u5⟩ := (hGS (sk g a) hpN).2 q5 t5 hx5
        refine aw_aload_n hO dX12_unit_82 rfl rfl ?_
        refine gM_wrong hO dX12_unit_83 rfl ?_
        refine aw_cg hp_μ5.wr ?_
        refine aw_iconst hO dX12_unit_86 rfl ?_
        refine aw_icmp_ne (tgt := 94) hO dX12_unit_87 rfl rfl (inRlit _) (inRlit _) (fun c87 => ?_) (fun c87 => ?_)
        · exact absurd c87 (by omega)
        · refine aw_aload_n hO dX12_unit_90 rfl rfl ?_
          refine aw_callVV (as := []) (st := []) hO dX12_unit_91 rfl (lw_t6 226 rfl rfl) kX12_compare (T := TX12) rfl (by decide) rfl (ctM_compare r d hd g N τ b5 L t5 μ5 hp_μ5 (by rw [hs5]; omega)) (by omega) rfl rfl rfl (Nat.le_of_ble_eq_true rfl) (fun μ8 hq9 => ?_)
          obtain ⟨hf0_μ8, ho_μ8⟩ := hq9
          have hf_μ8 : Fr (sS τ) μ μ8 := hf_μ5.tr hf0_μ8
          rcases hx8 : pCmp g r (sk g b5) t5 with ⟨q8, _ | t8⟩
          · have hb_μ8 := (PO_b hx8).mp ho_μ8
            have hqN8 := hb_μ8.2.1.2
            refine aw_vret hO dX12_unit_94 ?_
            exact ⟨rfl, hf_μ8, (PO_b ((pUn_s c8 c50).trans (by rw [hx5]; show pCmp g r q5 t5 = _; rw [← hs5]; exact hx8))).mpr (hb_μ8.mono (by omega))⟩
          · obtain ⟨b8, hs8, hp_μ8⟩ := (PO_g hx8).mp ho_μ8
            have hle8 := hp_μ8.le
            refine aw_vret hO dX12_unit_94 ?_
            exact ⟨rfl, hf_μ8, (PO_g ((pUn_s c8 c50).trans (by rw [hx5]; show pCmp g r q5 t5 = _; rw [← hs5]; exact hx8))).mpr ⟨b8, hs8, hp_μ8⟩⟩
    · refine aw_aload_n hO dX12_unit_53 rfl rfl ?_
      have hlt := hG.lt (p := sk g a) (by omega)
      rcases Nat.eq_zero_or_pos r with hr0 | hr0
      · refine aw_callVV (as := []) (st := []) hO dX12_unit_54 rfl (lw_t6 195 rfl rfl) kX12_opens (T := TX12) rfl (by decide) rfl (ctM_opensB μ2 (B := 240) hp_μ2 (by omega) (by omega)) (by omega) rfl rfl rfl (Nat.le_of_ble_eq_true rfl) (fun μ11 hq12 => ?_)
        obtain ⟨hf0_μ11, ho_μ11⟩ := hq12
        have hf_μ11 : Fr (sS τ) μ μ11 := hf_μ2.tr hf0_μ11
        refine aw_aload_n hO dX12_unit_57 rfl rfl ?_
        refine gM_wrong hO dX12_unit_58 rfl ?_
        refine aw_cg ho_μ11.2.1.1 ?_
        refine aw_iconst hO dX12_unit_61 rfl ?_
        refine aw_icmp_ne (tgt := 94) hO dX12_unit_62 rfl rfl (inRn (by omega)) (inRlit _) (fun c62 => ?_) (fun c62 => ?_)
        · refine aw_vret hO dX12_unit_94 ?_
          exact ⟨rfl, hf_μ11, (PO_b (pUn_o0 c8 c50 hr0)).mpr (ho_μ11.mono (by omega))⟩
        · exact absurd c62 (by omega)
      · refine aw_callVV (as := []) (st := []) hO dX12_unit_54 rfl (lw_t6 195 rfl rfl) kX12_opens (T := TX12) rfl (by decide) rfl (ctM_opens μ2 hp_μ2 (by omega) hlt) (by omega) rfl rfl rfl (Nat.le_of_ble_eq_true rfl) (fun μ14 hq15 => ?_)
        obtain ⟨hf0_μ14, ho_μ14⟩ := hq15
        have hf_μ14 : Fr (sS τ) μ μ14 := hf_μ2.tr hf0_μ14
        refine aw_aload_n hO dX12_unit_57 rfl rfl ?_
        refine gM_wrong hO dX12_unit_58 rfl ?_
        refine aw_cg ho_μ14.wr ?_
        refine aw_iconst hO dX12_unit_61 rfl ?_
        refine aw_icmp_ne (tgt := 94) hO dX12_unit_62 rfl rfl (inRlit _) (inRlit _) (fun c62 => ?_) (fun c62 => ?_)
        · exact absurd c62 (by omega)
        · refine aw_aload_n hO dX12_unit_65 rfl rfl ?_
          refine aw_callVV (as := []) (st := []) hO dX12_unit_66 rfl (lw_t6 187 rfl rfl) kX12_condition (T := TX12) rfl (by decide) rfl ((hU (by omega)).2.1 g N τ (sk g a + 1) L μ14 ho_μ14 (by omega)) (by omega) rfl rfl rfl (Nat.le_of_ble_eq_true rfl) (fun μ17 hq18 => ?_)
          obtain ⟨hf0_μ17, ho_μ17⟩ := hq18
          have hf_μ17 : Fr (sS τ) μ μ17 := hf_μ14.tr hf0_μ17
          rcases hx17 : condOf g (U g) (sk g (sk g a + 1)) with ⟨q17, _ | t17⟩
          · have hb_μ17 := (PO_b hx17).mp ho_μ17
            have hqN17 := hb_μ17.2.1.2
            refine aw_aload_n hO dX12_unit_69 rfl rfl ?_
            refine aw_bipush hO dX12_unit_70 rfl (by decide) (by decide) ?_
            refine aw_callVV (as := [vI 41]) (st := []) hO dX12_unit_72 rfl (lw_t6 203 rfl rfl) kX12_closes (T := TX12) rfl (by decide) rfl (ctM_closesB μ17 (c := 41) hb_μ17) (by omega) rfl rfl rfl (Nat.le_of_ble_eq_true rfl) (fun μ20 hq21 => ?_)
            obtain ⟨hf0_μ20, hb_μ20⟩ := hq21
            have hf_μ20 : Fr (sS τ) μ μ20 := hf_μ17.tr hf0_μ20
            refine aw_goto (tgt := 94) hO dX12_unit_75 rfl ?_
            refine aw_vret hO dX12_unit_94 ?_
            exact ⟨rfl, hf_μ20, (PO_b ((pUn_o c8 c50 (by omega)).trans (by rw [hx17]; rfl))).mpr (hb_μ20.mono (by omega))⟩
          · obtain ⟨b17, hs17, hp_μ17⟩ := (PO_g hx17).mp ho_μ17
            have hle17 := hp_μ17.le
            obtain ⟨u1, u2, u3, u4, u5⟩ := (hGC (by omega) (sk g (sk g a + 1)) (sk_le hG (by omega))).2 q17 t17 hx17
            have hlen : (L ++ t17).length ≤ 240 := by rw [List.length_append]; omega
            refine aw_aload_n hO dX12_unit_69 rfl rfl ?_
            refine aw_bipush hO dX12_unit_70 rfl (by decide) (by decide) ?_
            refine aw_callVV (as := [vI 41]) (st := []) hO dX12_unit_72 rfl (lw_t6 203 rfl rfl) kX12_closes (T := TX12) rfl (by decide) rfl (ctM_closes μ17 (B := 240) (c := 41) hp_μ17 (inRlit _) (by decide) hlen) (by omega) rfl rfl rfl (Nat.le_of_ble_eq_true rfl) (fun μ23 hq24 => ?_)
            obtain ⟨hf0_μ23, hg_μ23, hb_μ23⟩ := hq24
            have hf_μ23 : Fr (sS τ) μ μ23 := hf_μ17.tr hf0_μ23
            rw [hs17] at hg_μ23 hb_μ23
            by_cases e41 : g q17 = 41
            · have hp_μ23 := hg_μ23 e41
              refine aw_goto (tgt := 94) hO dX12_unit_75 rfl ?_
              refine aw_vret hO dX12_unit_94 ?_
              exact ⟨rfl, hf_μ23, (PO_g ((pUn_o c8 c50 (by omega)).trans (by rw [hx17, shut_g e41]))).mpr ⟨_, rfl, hp_μ23⟩⟩
            · have hb2_μ23 := hb_μ23 e41
              refine aw_goto (tgt := 94) hO dX12_unit_75 rfl ?_
              refine aw_vret hO dX12_unit_94 ?_
              exact ⟨rfl, hf_μ23, (PO_b ((pUn_o c8 c50 (by omega)).trans (by rw [hx17, shut_n e41]))).mpr (hb2_μ23.mono (by omega))⟩
  · refine aw_aload_n hO dX12_unit_11 rfl rfl ?_
    have hlt := hG.lt (p := sk g a) (by omega)
    rcases Nat.eq_zero_or_pos r with hr0 | hr0
    · refine aw_callVV (as := []) (st := []) hO dX12_unit_12 rfl (lw_t6 195 rfl rfl) kX12_opens (T := TX12) rfl (by decide) rfl (ctM_opensB μ2 (B := 240) hp_μ2 (by omega) (by omega)) (by omega) rfl rfl rfl (Nat.le_of_ble_eq_true rfl) (fun μ26 hq27 => ?_)
      obtain ⟨hf0_μ26, ho_μ26⟩ := hq27
      have hf_μ26 : Fr (sS τ) μ μ26 := hf_μ2.tr hf0_μ26
      refine aw_aload_n hO dX12_unit_15 rfl rfl ?_
      refine gM_wrong hO dX12_unit_16 rfl ?_
      refine aw_cg ho_μ26.2.1.1 ?_
      refine aw_iconst hO dX12_unit_19 rfl ?_
      refine aw_icmp_ne (tgt := 94) hO dX12_unit_20 rfl rfl (inRn (by omega)) (inRlit _) (fun c20 => ?_) (fun c20 => ?_)
      · refine aw_vret hO dX12_unit_94 ?_
        exact ⟨rfl, hf_μ26, (PO_b (pUn_n0 c8 hr0)).mpr (ho_μ26.mono (by omega))⟩
      · exact absurd c20 (by omega)
    · refine aw_callVV (as := []) (st := []) hO dX12_unit_12 rfl (lw_t6 195 rfl rfl) kX12_opens (T := TX12) rfl (by decide) rfl (ctM_opens μ2 hp_μ2 (by omega) hlt) (by omega) rfl rfl rfl (Nat.le_of_ble_eq_true rfl) (fun μ29 hq30 => ?_)
      obtain ⟨hf0_μ29, ho_μ29⟩ := hq30
      have hf_μ29 : Fr (sS τ) μ μ29 := hf_μ2.tr hf0_μ29
      refine aw_aload_n hO dX12_unit_15 rfl rfl ?_
      refine gM_wrong hO dX12_unit_16 rfl ?_
      refine aw_cg ho_μ29.wr ?_
      refine aw_iconst hO dX12_unit_19 rfl ?_
      refine aw_icmp_ne (tgt := 94) hO dX12_unit_20 rfl rfl (inRlit _) (inRlit _) (fun c20 => ?_) (fun c20 => ?_)
      · exact absurd c20 (by omega)
      · refine aw_aload_n hO dX12_unit_23 rfl rfl ?_
        refine aw_callVV (as := []) (st := []) hO dX12_unit_24 rfl (lw_t6 191 rfl rfl) kX12_unit (T := TX12) rfl (by decide) rfl ((hU (by omega)).1 g N τ (sk g a + 1) L μ29 ho_μ29 (by omega)) (by omega) rfl rfl rfl (Nat.le_of_ble_eq_true rfl) (fun μ32 hq33 => ?_)
        obtain ⟨hf0_μ32, ho_μ32⟩ := hq33
        have hf_μ32 : Fr (sS τ) μ μ32 := hf_μ29.tr hf0_μ32
        rcases hx32 : U g (sk g (sk g a + 1)) with ⟨q32, _ | t32⟩
        · have hb_μ32 := (PO_b hx32).mp ho_μ32
          have hqN32 := hb_μ32.2.1.2
          refine aw_aload_n hO dX12_unit_27 rfl rfl ?_
          refine aw_bipush hO dX12_unit_28 rfl (by decide) (by decide) ?_
          refine aw_iconst hO dX12_unit_30 rfl ?_
          obtain ⟨k_μ32, hk_μ32, hk2_μ32⟩ := hb_μ32.k (by omega)
          refine aw_callVV (as := [vI 9, vI 0]) (st := []) hO dX12_unit_31 rfl (lw_t6 199 rfl rfl) kX12_put (T := TX12) rfl (by decide) rfl (ctM_put μ32 hb_μ32.1.2.2.2.1 hb_μ32.1.2.2.2.2 hk_μ32 hk2_μ32 9 0) (by omega) rfl rfl rfl (Nat.le_of_ble_eq_true rfl) (fun μ35 hq36 => ?_)
          have hb_μ35 := hb_μ32.put hk_μ32 hk2_μ32 9 0
          rw [← hq36] at hb_μ35
          have hf_μ35 : Fr (sS τ) μ μ35 := by rw [hq36]; exact Fr_put hf_μ32 hk2_μ32
          refine aw_aload_n hO dX12_unit_34 rfl rfl ?_
          refine aw_dup hO dX12_unit_35 rfl rfl ?_
          refine gM_deep hO dX12_unit_36 rfl ?_
          refine aw_iconst hO dX12_unit_39 rfl ?_
          refine aw_isub hO dX12_unit_40 rfl ?_
          refine pM_deep hO dX12_unit_41 rfl ?_
          refine aw_mm (fun μ37 e_μ37 => ?_)
          have hf_μ37 : Fr (sS τ) μ μ37 := by rw [e_μ37]; exact hf_μ35.st sS_dp _
          have hb_μ37 := hb_μ35.st (i := 5) (Or.inr rfl) (μ35.1 0 5 - 1)
          rw [← e_μ37] at hb_μ37
          refine aw_goto (tgt := 94) hO dX12_unit_44 rfl ?_
          refine aw_vret hO dX12_unit_94 ?_
          exact ⟨rfl, hf_μ37, (PO_b ((pUn_n c8 (by omega)).trans (by rw [hx32]; rfl))).mpr (hb_μ37.mono (by omega))⟩
        · obtain ⟨b32, hs32, hp_μ32⟩ := (PO_g hx32).mp ho_μ32
          have hle32 := hp_μ32.le
          obtain ⟨u1, u2, u3, u4, u5⟩ := (hGG (by omega) (sk g (sk g a + 1)) (sk_le hG (by omega))).2 q32 t32 hx32
          have hlen : (L ++ t32).length ≤ 240 := by rw [List.length_append]; omega
          refine aw_aload_n hO dX12_unit_27 rfl rfl ?_
          refine aw_bipush hO dX12_unit_28 rfl (by decide) (by decide) ?_
          refine aw_iconst hO dX12_unit_30 rfl ?_
          refine aw_callVV (as := [vI 9, vI 0]) (st := []) hO dX12_unit_31 rfl (lw_t6 199 rfl rfl) kX12_put (T := TX12) rfl (by decide) rfl (ctM_put μ32 hp_μ32.1.2.2.2.1 hp_μ32.1.2.2.2.2 hp_μ32.co (by omega) 9 0) (by omega) rfl rfl rfl (Nat.le_of_ble_eq_true rfl) (fun μ39 hq40 => ?_)
          have hp_μ39 := hp_μ32.put (by omega) 9 0
          rw [← hq40] at hp_μ39
          have hf_μ39 : Fr (sS τ) μ μ39 := by rw [hq40]; exact Fr_put hf_μ32 (by omega)
          refine aw_aload_n hO dX12_unit_34 rfl rfl ?_
          refine aw_dup hO dX12_unit_35 rfl rfl ?_
          refine gM_deep hO dX12_unit_36 rfl ?_
          refine aw_cg hp_μ39.dp ?_
          refine aw_iconst hO dX12_unit_39 rfl ?_
          refine aw_isub hO dX12_unit_40 rfl ?_
          refine pM_deep hO dX12_unit_41 rfl ?_
          refine aw_mm (fun μ41 e_μ41 => ?_)
          have hf_μ41 : Fr (sS τ) μ μ41 := by rw [e_μ41]; exact hf_μ39.st sS_dp _
          have hp_μ41 := hp_μ39.deep d
          rw [show (d : Int) = ((d + 1 : Nat) : Int) - 1 by omega, ← e_μ41] at hp_μ41
          refine aw_goto (tgt := 94) hO dX12_unit_44 rfl ?_
          refine aw_vret hO dX12_unit_94 ?_
          exact ⟨rfl, hf_μ41, (PO_g ((pUn_n c8 (by omega)).trans (by rw [hx32]; rfl))).mpr ⟨b32, hs32, (by have hp9 := hp_μ41; rw [List.append_assoc] at hp9; exact hp9)⟩⟩
