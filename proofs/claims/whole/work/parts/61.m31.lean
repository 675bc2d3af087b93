
def sI (c fr mn k i : Nat) : Prop := (k = 0 ∧ (i = 3 ∨ i = 4)) ∨ (k = c ∧ fr ≤ i ∧ i < fr + mn)
theorem sE_I {c fr mn k i : Nat} (h : sE k i) : sI c fr mn k i := Or.inl h
/-- what reading items comes to -/
def ItO (g : Nat → Int) (N τ c fr mn : Nat) (x : Nat × Option (Nat → Int)) (m : Mm) : Prop := (∀ j, j < mn → 0 ≤ m.1 c (fr + j) ∧ m.1 c (fr + j) ≤ 99) ∧ (∀ q, x = (q, none) → BdL g N τ m q) ∧ ∀ q r, x = (q, some r) → (∃ b, sk g b = q ∧ PQ g N τ m b) ∧ ∀ j, j < mn → m.1 c (fr + j) = r j
theorem ItO_b {g : Nat → Int} {N τ c fr mn q : Nat} {x : Nat × Option (Nat → Int)} {m : Mm} (e : x = (q, none)) (h0 : ∀ j, j < mn → 0 ≤ m.1 c (fr + j) ∧ m.1 c (fr + j) ≤ 99) (h : BdL g N τ m q) : ItO g N τ c fr mn x m := ⟨h0, fun q' e' => by
  rw [e] at e'
  simp only [Prod.mk.injEq, and_true] at e'
  rw [← e']
  exact h, fun q' r' e' => by rw [e] at e'; simp at e'⟩
theorem ItO_g {g : Nat → Int} {N τ c fr mn q b : Nat} {x : Nat × Option (Nat → Int)} {r : Nat → Int} {m : Mm} (e : x = (q, some r)) (h0 : ∀ j, j < 4 → 0 ≤ r j ∧ r j ≤ 99) (hmn : mn ≤ 4) (h1 : sk g b = q) (h2 : PQ g N τ m b) (h3 : ∀ j, j < mn → m.1 c (fr + j) = r j) : ItO g N τ c fr mn x m := ⟨fun j hj => by rw [h3 j hj]; exact h0 j (by omega), fun q' e' => by rw [e] at e'; simp at e', fun q' r' e' => by
  rw [e] at e'
  simp only [Prod.mk.injEq, Option.some.injEq] at e'
  rw [← e'.1, ← e'.2]
  exact ⟨⟨b, h1, h2⟩, h3⟩⟩
theorem dX12_items_0 : decode cX12_items 0 = .ok (.iconst 0, 1) := by decide +kernel
theorem dX12_items_1 : decode cX12_items 1 = .ok (.istore 5, 2) := by decide +kernel
theorem dX12_items_3 : decode cX12_items 3 = .ok (.iload 5, 2) := by decide +kernel
theorem dX12_items_5 : decode cX12_items 5 = .ok (.iload 4, 2) := by decide +kernel
theorem dX12_items_7 : decode cX12_items 7 = .ok (.if_icmp .ge 21, 3) := by decide +kernel
theorem dX12_items_10 : decode cX12_items 10 = .ok (.aload_n 2, 1) := by decide +kernel
theorem dX12_items_11 : decode cX12_items 11 = .ok (.iload_n 3, 1) := by decide +kernel
theorem dX12_items_12 : decode cX12_items 12 = .ok (.iload 5, 2) := by decide +kernel
theorem dX12_items_14 : decode cX12_items 14 = .ok (.iadd, 1) := by decide +kernel
theorem dX12_items_15 : decode cX12_items 15 = .ok (.iload_n 1, 1) := by decide +kernel
theorem dX12_items_16 : decode cX12_items 16 = .ok (.iload 5, 2) := by decide +kernel
theorem dX12_items_18 : decode cX12_items 18 = .ok (.invokestatic 209, 3) := by decide +kernel
theorem dX12_items_21 : decode cX12_items 21 = .ok (.iastore, 1) := by decide +kernel
theorem dX12_items_22 : decode cX12_items 22 = .ok (.iinc 5 1, 3) := by decide +kernel
theorem dX12_items_25 : decode cX12_items 25 = .ok (.goto (-22), 3) := by decide +kernel
theorem dX12_items_28 : decode cX12_items 28 = .ok (.iconst 0, 1) := by decide +kernel
theorem dX12_items_29 : decode cX12_items 29 = .ok (.istore 5, 2) := by decide +kernel
theorem dX12_items_31 : decode cX12_items 31 = .ok (.iload_n 1, 1) := by decide +kernel
theorem dX12_items_32 : decode cX12_items 32 = .ok (.aload_n 0, 1) := by decide +kernel
theorem dX12_items_33 : decode cX12_items 33 = .ok (.invokevirtual 119, 3) := by decide +kernel
theorem dX12_items_36 : decode cX12_items 36 = .ok (.invokestatic 213, 3) := by decide +kernel
theorem dX12_items_39 : decode cX12_items 39 = .ok (.istore 6, 2) := by decide +kernel
theorem dX12_items_41 : decode cX12_items 41 = .ok (.aload_n 0, 1) := by decide +kernel
theorem dX12_items_42 : decode cX12_items 42 = .ok (.getfield 107, 3) := by decide +kernel
theorem dX12_items_45 : decode cX12_items 45 = .ok (.iconst (-1), 1) := by decide +kernel
theorem dX12_items_46 : decode cX12_items 46 = .ok (.if_icmp .ne 96, 3) := by decide +kernel
theorem dX12_items_49 : decode cX12_items 49 = .ok (.iload 6, 2) := by decide +kernel
theorem dX12_items_51 : decode cX12_items 51 = .ok (.iconst (-1), 1) := by decide +kernel
theorem dX12_items_52 : decode cX12_items 52 = .ok (.if_icmp .eq 90, 3) := by decide +kernel
theorem dX12_items_55 : decode cX12_items 55 = .ok (.iload 5, 2) := by decide +kernel
theorem dX12_items_57 : decode cX12_items 57 = .ok (.iload 6, 2) := by decide +kernel
theorem dX12_items_59 : decode cX12_items 59 = .ok (.invokestatic 216, 3) := by decide +kernel
theorem dX12_items_62 : decode cX12_items 62 = .ok (.ifCond .ne 80, 3) := by decide +kernel
theorem dX12_items_65 : decode cX12_items 65 = .ok (.iload 5, 2) := by decide +kernel
theorem dX12_items_67 : decode cX12_items 67 = .ok (.iconst 1, 1) := by decide +kernel
theorem dX12_items_68 : decode cX12_items 68 = .ok (.iload 6, 2) := by decide +kernel
theorem dX12_items_70 : decode cX12_items 70 = .ok (.ishl, 1) := by decide +kernel
theorem dX12_items_71 : decode cX12_items 71 = .ok (.ior, 1) := by decide +kernel
theorem dX12_items_72 : decode cX12_items 72 = .ok (.istore 5, 2) := by decide +kernel
theorem dX12_items_74 : decode cX12_items 74 = .ok (.aload_n 0, 1) := by decide +kernel
theorem dX12_items_75 : decode cX12_items 75 = .ok (.dup, 1) := by decide +kernel
theorem dX12_items_76 : decode cX12_items 76 = .ok (.getfield 100, 3) := by decide +kernel
theorem dX12_items_79 : decode cX12_items 79 = .ok (.iconst 1, 1) := by decide +kernel
theorem dX12_items_80 : decode cX12_items 80 = .ok (.iadd, 1) := by decide +kernel
theorem dX12_items_81 : decode cX12_items 81 = .ok (.putfield 100, 3) := by decide +kernel
theorem dX12_items_84 : decode cX12_items 84 = .ok (.aload_n 2, 1) := by decide +kernel
theorem dX12_items_85 : decode cX12_items 85 = .ok (.iload_n 3, 1) := by decide +kernel
theorem dX12_items_86 : decode cX12_items 86 = .ok (.iload 6, 2) := by decide +kernel
theorem dX12_items_88 : decode cX12_items 88 = .ok (.iadd, 1) := by decide +kernel
theorem dX12_items_89 : decode cX12_items 89 = .ok (.aload_n 0, 1) := by decide +kernel
theorem dX12_items_90 : decode cX12_items 90 = .ok (.iload_n 1, 1) := by decide +kernel
theorem dX12_items_91 : decode cX12_items 91 = .ok (.bipush 116, 2) := by decide +kernel
theorem dX12_items_93 : decode cX12_items 93 = .ok (.if_icmp .ne 13, 3) := by decide +kernel
theorem dX12_items_96 : decode cX12_items 96 = .ok (.iload 6, 2) := by decide +kernel
theorem dX12_items_98 : decode cX12_items 98 = .ok (.iconst 2, 1) := by decide +kernel
theorem dX12_items_99 : decode cX12_items 99 = .ok (.if_icmp .ne 7, 3) := by decide +kernel
theorem dX12_items_102 : decode cX12_items 102 = .ok (.iconst 1, 1) := by decide +kernel
theorem dX12_items_103 : decode cX12_items 103 = .ok (.goto 4, 3) := by decide +kernel
theorem dX12_items_106 : decode cX12_items 106 = .ok (.iconst 0, 1) := by decide +kernel
theorem dX12_items_107 : decode cX12_items 107 = .ok (.iload_n 1, 1) := by decide +kernel
theorem dX12_items_108 : decode cX12_items 108 = .ok (.iload 6, 2) := by decide +kernel
theorem dX12_items_110 : decode cX12_items 110 = .ok (.invokestatic 220, 3) := by decide +kernel
theorem dX12_items_113 : decode cX12_items 113 = .ok (.invokevirtual 223, 3) := by decide +kernel
theorem dX12_items_116 : decode cX12_items 116 = .ok (.iastore, 1) := by decide +kernel
theorem dX12_items_117 : decode cX12_items 117 = .ok (.aload_n 0, 1) := by decide +kernel
theorem dX12_items_118 : decode cX12_items 118 = .ok (.getfield 107, 3) := by decide +kernel
theorem dX12_items_121 : decode cX12_items 121 = .ok (.iconst (-1), 1) := by decide +kernel
theorem dX12_items_122 : decode cX12_items 122 = .ok (.if_icmp .ne 14, 3) := by decide +kernel
theorem dX12_items_125 : decode cX12_items 125 = .ok (.iload_n 1, 1) := by decide +kernel
theorem dX12_items_126 : decode cX12_items 126 = .ok (.aload_n 0, 1) := by decide +kernel
theorem dX12_items_127 : decode cX12_items 127 = .ok (.invokevirtual 119, 3) := by decide +kernel
theorem dX12_items_130 : decode cX12_items 130 = .ok (.invokestatic 213, 3) := by decide +kernel
theorem dX12_items_133 : decode cX12_items 133 = .ok (.goto 4, 3) := by decide +kernel
theorem dX12_items_136 : decode cX12_items 136 = .ok (.iconst (-1), 1) := by decide +kernel
theorem dX12_items_137 : decode cX12_items 137 = .ok (.istore 6, 2) := by decide +kernel
theorem dX12_items_139 : decode cX12_items 139 = .ok (.goto (-98), 3) := by decide +kernel
theorem dX12_items_142 : decode cX12_items 142 = .ok (.return_, 1) := by decide +kernel
set_option maxHeartbeats 4000000 in
set_option maxRecDepth 100000 in
theorem ctM_items_115 (μ : Mm) {g : Nat → Int} {N τ : Nat} {a : Nat} (h : PQ g N τ μ a) : CtV PM 3 yX12_items cX12_items 7 none [vR 0, vI 115, vR 11, vI 0, vI 4] μ (fun m => Fr (sI 11 0 4) μ m ∧ ItO g N τ 11 0 4 (pIt g 115 4 (sk g a) (usR 115) 0) m) := by
  refine ct_intro [some (vR 0), some (vI 115), some (vR 11), some (vI 0), some (vI 4), none, none] RX12 (by decide) rfl XM rfl (Nat.le_of_ble_eq_true rfl) (fun K hO => ?_)
  have hG := h.G
  have hN := hG.1
  have hpN := sk_le hG h.le
  have hX : ∃ x, x = pIt g 115 4 (sk g a) (usR 115) 0 := ⟨_, rfl⟩
  obtain ⟨X, hX⟩ := hX
  have lp2 : ∀ (f b : Nat) (s : Int) (r : Nat → Int) (m : Mm), (f : Int) + bitC s = 4 → 0 ≤ s → s ≤ 15 → sk g b = b → pIt g 115 f b r s = X → Fr (sI 11 0 4) μ m → PQ g N τ m b → (∀ j, j < 4 → m.1 11 (0 + j) = r j) → (∀ j, j < 4 → 0 ≤ r j ∧ r j ≤ 99) → AW K 41 [some (vR 0), some (vI 115), some (vR 11), some (vI 0), some (vI 4), some (vI s), some (vI (itO 115 (g b)))] [] m := by
    intro f
    induction f with
    | zero =>
      intro b s r m hfb hs0 hs15 hsk e0 hf hm hw hr
      have hi := itO_rng 115 (g b)
      have hrb := hG.rng b
      have hbN := hm.le
      refine aw_aload_n hO dX12_items_41 rfl rfl ?_
      refine gM_wrong hO dX12_items_42 rfl ?_
      refine aw_cg hm.wr ?_
      refine aw_iconst hO dX12_items_45 rfl ?_
      refine aw_icmp_ne (tgt := 142) hO dX12_items_46 rfl rfl (inRlit _) (inRlit _) (fun c46 => ?_) (fun c46 => ?_)
      · exact absurd c46 (by omega)
      · refine aw_iload hO dX12_items_49 rfl rfl ?_
        refine aw_iconst hO dX12_items_51 rfl ?_
        refine aw_icmp_eq (tgt := 142) hO dX12_items_52 rfl rfl ⟨by omega, by omega⟩ (inRlit _) (fun c52 => ?_) (fun c52 => ?_)
        · refine aw_vret hO dX12_items_142 ?_
          exact ⟨rfl, hf, ItO_g (hX.symm.trans (e0.symm.trans (pIt_s (Or.inl c52)))) hr (by decide) hsk hm hw⟩
        · have hlt := hG.lt (itO_e c52)
          have hse := seen_s (k := (itO 115 (g b))) hs0 hs15 (by omega) (by omega)
          refine aw_iload hO dX12_items_55 rfl rfl ?_
          refine aw_iload hO dX12_items_57 rfl rfl ?_
          refine aw_stq (st' := [vI (((itO 115 (g b)).toNat : Nat) : Int), vI s]) (by rw [Int.toNat_of_nonneg (by omega)]) ?_
          refine aw_callSI (as := [vI s, vI (((itO 115 (g b)).toNat : Nat) : Int)]) (st := []) hO dX12_items_59 rfl (lw_t6 155 rfl rfl) kX12_has (ctM_has m s (itO 115 (g b)).toNat) (by decide) rfl rfl rfl (Nat.le_of_ble_eq_true rfl) ?_
          refine aw_ifz_ne (tgt := 142) hO dX12_items_62 rfl rfl (fun c62 => ?_) (fun c62 => ?_)
          · refine aw_vret hO dX12_items_142 ?_
            exact ⟨rfl, hf, ItO_g (hX.symm.trans (e0.symm.trans (pIt_s (Or.inr c62)))) hr (by decide) hsk hm hw⟩
          · exact absurd (hse.2 (by omega)) c62
    | succ f ih =>
      intro b s r m hfb hs0 hs15 hsk e0 hf hm hw hr
      have hi := itO_rng 115 (g b)
      have hrb := hG.rng b
      have hbN := hm.le
      refine aw_aload_n hO dX12_items_41 rfl rfl ?_
      refine gM_wrong hO dX12_items_42 rfl ?_
      refine aw_cg hm.wr ?_
      refine aw_iconst hO dX12_items_45 rfl ?_
      refine aw_icmp_ne (tgt := 142) hO dX12_items_46 rfl rfl (inRlit _) (inRlit _) (fun c46 => ?_) (fun c46 => ?_)
      · exact absurd c46 (by omega)
      · refine aw_iload hO dX12_items_49 rfl rfl ?_
        refine aw_iconst hO dX12_items_51 rfl ?_
        refine aw_icmp_eq (tgt := 142) hO dX12_items_52 rfl rfl ⟨by omega, by omega⟩ (inRlit _) (fun c52 => ?_) (fun c52 => ?_)
        · refine aw_vret hO dX12_items_142 ?_
          exact ⟨rfl, hf, ItO_g (hX.symm.trans (e0.symm.trans (pIt_s (Or.inl c52)))) hr (by decide) hsk hm hw⟩
        · have hlt := hG.lt (itO_e c52)
          have hse := seen_s (k := (itO 115 (g b))) hs0 hs15 (by omega) (by omega)
          refine aw_iload hO dX12_items_55 rfl rfl ?_
          refine aw_iload hO dX12_items_57 rfl rfl ?_
          refine aw_stq (st' := [vI (((itO 115 (g b)).toNat : Nat) : Int), vI s]) (by rw [Int.toNat_of_nonneg (by omega)]) ?_
          refine aw_callSI (as := [vI s, vI (((itO 115 (g b)).toNat : Nat) : Int)]) (st := []) hO dX12_items_59 rfl (lw_t6 155 rfl rfl) kX12_has (ctM_has m s (itO 115 (g b)).toNat) (by decide) rfl rfl rfl (Nat.le_of_ble_eq_true rfl) ?_
          refine aw_ifz_ne (tgt := 142) hO dX12_items_62 rfl rfl (fun c62 => ?_) (fun c62 => ?_)
          · refine aw_vret hO dX12_items_142 ?_
            exact ⟨rfl, hf, ItO_g (hX.symm.trans (e0.symm.trans (pIt_s (Or.inr c62)))) hr (by decide) hsk hm hw⟩
          · refine aw_iload hO dX12_items_65 rfl rfl ?_
            refine aw_iconst hO dX12_items_67 rfl ?_
            refine aw_iload hO dX12_items_68 rfl rfl ?_
            refine aw_ishl hO dX12_items_70 rfl ?_
            refine aw_ior hO dX12_items_71 rfl ?_
            refine aw_istore (ls' := [some (vR 0), some (vI 115), some (vR 11), some (vI 0), some (vI 4), some (vI (bOr s (bShl 1 (itO 115 (g b))))), some (vI (itO 115 (g b)))]) hO dX12_items_72 rfl (Nat.le_of_ble_eq_true rfl) rfl rfl ?_
            refine aw_aload_n hO dX12_items_74 rfl rfl ?_
            refine aw_dup hO dX12_items_75 rfl rfl ?_
            refine gM_at hO dX12_items_76 rfl ?_
            refine aw_cg hm.at ?_
            refine aw_iconst hO dX12_items_79 rfl ?_
            refine aw_iadd hO dX12_items_80 rfl ?_
            refine pM_at hO dX12_items_81 rfl ?_
            refine aw_mm (fun μ1 e_μ1 => ?_)
            have hp_μ1 := hm.to (b := (b + 1)) (by omega) (show μ1 = mst m 0 3 (((b + 1) : Nat) : Int) by rw [e_μ1]; congr 1 <;> omega)
            have hf_μ1 : Fr (sI 11 0 4) μ μ1 := by rw [e_μ1]; exact hf.st (Or.inl ⟨rfl, Or.inl rfl⟩) _
            have hw_μ1 : ∀ j, j < 4 → μ1.1 11 (0 + j) = r j := fun j hj => by rw [e_μ1, mst_nk (by decide)]; exact hw j hj
            refine aw_aload_n hO dX12_items_84 rfl rfl ?_
            refine aw_iload_n hO dX12_items_85 rfl rfl ?_
            refine aw_iload hO dX12_items_86 rfl rfl ?_
            refine aw_iadd hO dX12_items_88 rfl ?_
            refine aw_aload_n hO dX12_items_89 rfl rfl ?_
            refine aw_iload_n hO dX12_items_90 rfl rfl ?_
            refine aw_bipush hO dX12_items_91 rfl (by decide) (by decide) ?_
            refine aw_icmp_ne (tgt := 106) hO dX12_items_93 rfl rfl (inRlit _) (inRlit _) (fun c93 => ?_) (fun c93 => ?_)
            · refine aw_iconst hO dX12_items_106 rfl ?_
              refine aw_iload_n hO dX12_items_107 rfl rfl ?_
              refine aw_iload hO dX12_items_108 rfl rfl ?_
              refine aw_callSI (as := [vI 115, vI (itO 115 (g b))]) (st := [vI 0, vR 0, vI (0 + (itO 115 (g b))), vR 11]) hO dX12_items_110 rfl (lw_t6 158 rfl rfl) kX12_highest (ctM_highest_115 μ1 (v := (itO 115 (g b))) ⟨by omega, by omega⟩) (by decide) rfl rfl rfl (Nat.le_of_ble_eq_true rfl) ?_
              have hlo : 0 = loO 115 (itO 115 (g b)) := by unfold loO; rw [if_neg (by omega)]
              have hlr := loO_rng 115 (itO 115 (g b))
              have hhr := hiO_rng 115 (itO 115 (g b))
              refine aw_stq (st' := [vI (hiO 115 (itO 115 (g b))), vI (loO 115 (itO 115 (g b))), vR 0, vI (0 + (itO 115 (g b))), vR 11]) (by rw [← hlo]) ?_
              refine aw_callVE (as := [vI (loO 115 (itO 115 (g b))), vI (hiO 115 (itO 115 (g b)))]) (st := [vI (0 + (itO 115 (g b))), vR 11]) hO dX12_items_113 rfl (lw_t6 161 rfl rfl) kX12_number (T := TX12) rfl (by decide) rfl (ctM_number μ1 (lo := (loO 115 (itO 115 (g b)))) (hi := (hiO 115 (itO 115 (g b)))) hp_μ1 (by omega) (by omega) (by omega) (by omega)) (by decide) rfl rfl rfl (Nat.le_of_ble_eq_true rfl) (fun v2 μ3 hq4 => ?_)
              obtain ⟨hf0_μ3, hv_v2, hb0_μ3, hg0_μ3⟩ := hq4
              have hf_μ3 : Fr (sI 11 0 4) μ μ3 := hf_μ1.tr (hf0_μ3.mono fun _ _ => sE_I)
              have hw_μ3 : ∀ j, j < 4 → μ3.1 11 (0 + j) = r j := fun j hj => (hf0_μ3.1 11 _ (by unfold sE; omega)).trans (hw_μ1 j hj)
              rcases hx : pNb g (loO 115 (itO 115 (g b))) (hiO 115 (itO 115 (g b))) (sk g (b + 1)) with ⟨q, _ | x⟩
              · have hb_μ3 := hb0_μ3 q hx
                have hqN := hb_μ3.2.2
                refine aw_iastn (N := 4) (i := (0 + (itO 115 (g b)).toNat)) hO dX12_items_116 rfl (by decide) rfl (by decide) (by omega) (by omega) ?_
                refine aw_mm (fun μ5 e_μ5 => ?_)
                have hf_μ5 : Fr (sI 11 0 4) μ μ5 := by rw [e_μ5]; exact hf_μ3.st (Or.inr ⟨rfl, by omega, by omega⟩) _
                have hw_μ5 : ∀ j, j < 4 → μ5.1 11 (0 + j) = fu r (itO 115 (g b)).toNat v2 j := fun j hj => by
                  by_cases ej : j = (itO 115 (g b)).toNat
                  · rw [ej, fu_eq, e_μ5, mst_eq]
                  · rw [fu_ne ej, e_μ5, mst_ni (by omega)]; exact hw_μ3 j hj
                have hr2 : ∀ j, j < 4 → 0 ≤ fu r (itO 115 (g b)).toNat v2 j ∧ fu r (itO 115 (g b)).toNat v2 j ≤ 99 := fun j hj => by
                  by_cases ej : j = (itO 115 (g b)).toNat
                  · rw [ej, fu_eq]; exact hv_v2
                  · rw [fu_ne ej]; exact hr j hj
                have hb_μ5 := hb_μ3.off e_μ5 (by decide)
                refine aw_aload_n hO dX12_items_117 rfl rfl ?_
                refine gM_wrong hO dX12_items_118 rfl ?_
                refine aw_cg hb_μ5.2.1 ?_
                refine aw_iconst hO dX12_items_121 rfl ?_
                refine aw_icmp_ne (tgt := 136) hO dX12_items_122 rfl rfl (inRn (by omega)) (inRlit _) (fun c122 => ?_) (fun c122 => ?_)
                · refine aw_iconst hO dX12_items_136 rfl ?_
                  refine aw_istore (ls' := [some (vR 0), some (vI 115), some (vR 11), some (vI 0), some (vI 4), some (vI (bOr s (bShl 1 (itO 115 (g b))))), some (vI (-1))]) hO dX12_items_137 rfl (Nat.le_of_ble_eq_true rfl) rfl rfl ?_
                  refine aw_goto (tgt := 41) hO dX12_items_139 rfl ?_
                  refine aw_aload_n hO dX12_items_41 rfl rfl ?_
                  refine gM_wrong hO dX12_items_42 rfl ?_
                  refine aw_cg hb_μ5.2.1 ?_
                  refine aw_iconst hO dX12_items_45 rfl ?_
                  refine aw_icmp_ne (tgt := 142) hO dX12_items_46 rfl rfl (inRn (by omega)) (inRlit _) (fun c46 => ?_) (fun c46 => ?_)
                  · refine aw_vret hO dX12_items_142 ?_
                    exact ⟨rfl, hf_μ5, ItO_b (hX.symm.trans (e0.symm.trans (pIt_b (fun h => h.elim c52 c62) hx))) (fun j hj => by rw [hw_μ5 j hj]; exact hr2 j (by omega)) hb_μ5⟩
                  · exact absurd c46 (by omega)
                · exact absurd c122 (by omega)
              · obtain ⟨e_v2, b2, hs2, hp_μ3⟩ := hg0_μ3 q x hx
                have ev := e_v2
                obtain ⟨z1, z2, z3, z4, z5⟩ := (pNb_G hG (sk_le hG (by omega))).2 q x hx
                refine aw_iastn (N := 4) (i := (0 + (itO 115 (g b)).toNat)) hO dX12_items_116 rfl (by decide) rfl (by decide) (by omega) (by omega) ?_
                refine aw_mm (fun μ6 e_μ6 => ?_)
                have hf_μ6 : Fr (sI 11 0 4) μ μ6 := by rw [e_μ6]; exact hf_μ3.st (Or.inr ⟨rfl, by omega, by omega⟩) _
                have hw_μ6 : ∀ j, j < 4 → μ6.1 11 (0 + j) = fu r (itO 115 (g b)).toNat v2 j := fun j hj => by
                  by_cases ej : j = (itO 115 (g b)).toNat
                  · rw [ej, fu_eq, e_μ6, mst_eq]
                  · rw [fu_ne ej, e_μ6, mst_ni (by omega)]; exact hw_μ3 j hj
                have hr2 : ∀ j, j < 4 → 0 ≤ fu r (itO 115 (g b)).toNat v2 j ∧ fu r (itO 115 (g b)).toNat v2 j ≤ 99 := fun j hj => by
                  by_cases ej : j = (itO 115 (g b)).toNat
                  · rw [ej, fu_eq]; exact hv_v2
                  · rw [fu_ne ej]; exact hr j hj
                have hp_μ6 := hp_μ3.off e_μ6 (by decide)
                refine aw_aload_n hO dX12_items_117 rfl rfl ?_
                refine gM_wrong hO dX12_items_118 rfl ?_
                refine aw_cg hp_μ6.wr ?_
                refine aw_iconst hO dX12_items_121 rfl ?_
                refine aw_icmp_ne (tgt := 136) hO dX12_items_122 rfl rfl (inRlit _) (inRlit _) (fun c122 => ?_) (fun c122 => ?_)
                · exact absurd c122 (by omega)
                · refine aw_iload_n hO dX12_items_125 rfl rfl ?_
                  refine aw_aload_n hO dX12_items_126 rfl rfl ?_
                  refine aw_callVE (as := []) (st := [vI 115]) hO dX12_items_127 rfl (lw_t6 140 rfl rfl) kX12_look (T := TX12) rfl (by decide) rfl (ctM_look μ6 hp_μ6.1 hp_μ6.at hp_μ6.le) (by decide) rfl rfl rfl (Nat.le_of_ble_eq_true rfl) (fun v7 μ8 hq9 => ?_)
                  obtain ⟨e_v7, e_μ8⟩ := hq9
                  subst e_v7
                  have hp_μ8 := hp_μ6.to (sk_le hp_μ6.G hp_μ6.le) e_μ8
                  have hf_μ8 : Fr (sI 11 0 4) μ μ8 := by rw [e_μ8]; exact hf_μ6.st (Or.inl ⟨rfl, Or.inl rfl⟩) _
                  have hr_μ8 := hp_μ6.G.rng (sk g b2)
                  have hw_μ8 : ∀ j, j < 4 → μ8.1 11 (0 + j) = fu r (itO 115 (g b)).toNat v2 j := fun j hj => by rw [e_μ8, mst_nk (by decide)]; exact hw_μ6 j hj
                  rw [hs2] at hp_μ8 hr_μ8 ⊢
                  refine aw_callSI (as := [vI 115, vI (g q)]) (st := []) hO dX12_items_130 rfl (lw_t6 152 rfl rfl) kX12_itemOf (ctM_itemOf_115 μ8 (v := (g q)) ⟨by omega, by omega⟩) (by decide) rfl rfl rfl (Nat.le_of_ble_eq_true rfl) ?_
                  refine aw_goto (tgt := 137) hO dX12_items_133 rfl ?_
                  refine aw_istore (ls' := [some (vR 0), some (vI 115), some (vR 11), some (vI 0), some (vI 4), some (vI (bOr s (bShl 1 (itO 115 (g b))))), some (vI (itO 115 (g q)))]) hO dX12_items_137 rfl (Nat.le_of_ble_eq_true rfl) rfl rfl ?_
                  refine aw_goto (tgt := 41) hO dX12_items_139 rfl ?_
                  exact ih q (bOr s (bShl 1 (itO 115 (g b)))) (fu r (itO 115 (g b)).toNat v2) μ8 (by have := hse.1.resolve_left c62; omega) (hse.1.resolve_left c62).2.1 (hse.1.resolve_left c62).2.2 z3 (by rw [ev, ← pIt_g (fun h => h.elim c52 c62) hx]; exact e0) hf_μ8 hp_μ8 hw_μ8 hr2
            · exact absurd c93 (by omega)
  have lp1 : ∀ (c k : Nat) (m : Mm), k + c = 4 → Fr (sI 11 0 4) μ m → PQ g N τ m a → (∀ j, j < k → m.1 11 (0 + j) = usR 115 j) → AW K 3 [some (vR 0), some (vI 115), some (vR 11), some (vI 0), some (vI 4), some (vI ((k : Nat) : Int)), none] [] m := by
    intro c
    induction c with
    | zero =>
      intro k m hk hf hm hw
      have hk4 : k = 4 := by omega
      subst hk4
      refine aw_iload hO dX12_items_3 rfl rfl ?_
      refine aw_iload hO dX12_items_5 rfl rfl ?_
      refine aw_icmp_ge (tgt := 28) hO dX12_items_7 rfl rfl (inRn (by omega)) (inRlit _) (fun c7 => ?_) (fun c7 => ?_)
      · refine aw_iconst hO dX12_items_28 rfl ?_
        refine aw_istore (ls' := [some (vR 0), some (vI 115), some (vR 11), some (vI 0), some (vI 4), some (vI 0), none]) hO dX12_items_29 rfl (Nat.le_of_ble_eq_true rfl) rfl rfl ?_
        refine aw_iload_n hO dX12_items_31 rfl rfl ?_
        refine aw_aload_n hO dX12_items_32 rfl rfl ?_
        refine aw_callVE (as := []) (st := [vI 115]) hO dX12_items_33 rfl (lw_t6 140 rfl rfl) kX12_look (T := TX12) rfl (by decide) rfl (ctM_look m hm.1 hm.at hm.le) (by decide) rfl rfl rfl (Nat.le_of_ble_eq_true rfl) (fun v10 μ11 hq12 => ?_)
        obtain ⟨e_v10, e_μ11⟩ := hq12
        subst e_v10
        have hp_μ11 := hm.to (sk_le hm.G hm.le) e_μ11
        have hf_μ11 : Fr (sI 11 0 4) μ μ11 := by rw [e_μ11]; exact hf.st (Or.inl ⟨rfl, Or.inl rfl⟩) _
        have hr_μ11 := hm.G.rng (sk g a)
        have hw_μ11 : ∀ j, j < 4 → μ11.1 11 (0 + j) = usR 115 j := fun j hj => by rw [e_μ11, mst_nk (by decide)]; exact hw j hj
        refine aw_callSI (as := [vI 115, vI (g (sk g a))]) (st := []) hO dX12_items_36 rfl (lw_t6 152 rfl rfl) kX12_itemOf (ctM_itemOf_115 μ11 (v := (g (sk g a))) ⟨by omega, by omega⟩) (by decide) rfl rfl rfl (Nat.le_of_ble_eq_true rfl) ?_
        refine aw_istore (ls' := [some (vR 0), some (vI 115), some (vR 11), some (vI 0), some (vI 4), some (vI 0), some (vI (itO 115 (g (sk g a))))]) hO dX12_items_39 rfl (Nat.le_of_ble_eq_true rfl) rfl rfl ?_
        exact lp2 4 (sk g a) 0 (usR 115) μ11 (by decide) (by decide) (by decide) (sk_sk hG _) hX.symm hf_μ11 hp_μ11 hw_μ11 (fun j hj => by have := usO_rng 115 (j : Int); unfold usR; omega)
      · exact absurd c7 (by omega)
    | succ c ih =>
      intro k m hk hf hm hw
      refine aw_iload hO dX12_items_3 rfl rfl ?_
      refine aw_iload hO dX12_items_5 rfl rfl ?_
      refine aw_icmp_ge (tgt := 28) hO dX12_items_7 rfl rfl (inRn (by omega)) (inRlit _) (fun c7 => ?_) (fun c7 => ?_)
      · exact absurd c7 (by omega)
      · refine aw_aload_n hO dX12_items_10 rfl rfl ?_
        refine aw_iload_n hO dX12_items_11 rfl rfl ?_
        refine aw_iload hO dX12_items_12 rfl rfl ?_
        refine aw_iadd hO dX12_items_14 rfl ?_
        refine aw_iload_n hO dX12_items_15 rfl rfl ?_
        refine aw_iload hO dX12_items_16 rfl rfl ?_
        refine aw_callSI (as := [vI 115, vI ((k : Nat) : Int)]) (st := [vI (0 + ((k : Nat) : Int)), vR 11]) hO dX12_items_18 rfl (lw_t6 137 rfl rfl) kX12_usual (ctM_usual_115 m (v := ((k : Nat) : Int)) (inRn (by omega))) (by decide) rfl rfl rfl (Nat.le_of_ble_eq_true rfl) ?_
        refine aw_iastn (N := 4) (i := (0 + k)) hO dX12_items_21 rfl (by decide) rfl (by decide) (by omega) (by omega) ?_
        refine aw_mm (fun μ13 e_μ13 => ?_)
        have hf_μ13 : Fr (sI 11 0 4) μ μ13 := by rw [e_μ13]; exact hf.st (Or.inr ⟨rfl, by omega, by omega⟩) _
        have hp_μ13 := hm.off e_μ13 (by decide)
        have hw_μ13 : ∀ j, j < k + 1 → μ13.1 11 (0 + j) = usR 115 j := fun j hj => by
          by_cases ej : j = k
          · rw [ej, e_μ13, mst_eq]; rfl
          · rw [e_μ13, mst_ni (by omega)]; exact hw j (by omega)
        refine aw_iinc (ls' := [some (vR 0), some (vI 115), some (vR 11), some (vI 0), some (vI 4), some (vI (((k : Nat) : Int) + 1)), none]) hO dX12_items_22 rfl rfl rfl rfl ?_
        refine aw_lsq (ls' := [some (vR 0), some (vI 115), some (vR 11), some (vI 0), some (vI 4), some (vI (((k + 1) : Nat) : Int)), none]) rfl ?_
        refine aw_goto (tgt := 3) hO dX12_items_25 rfl ?_
        exact ih (k + 1) μ13 (by omega) hf_μ13 hp_μ13 hw_μ13
  refine aw_iconst hO dX12_items_0 rfl ?_
  refine aw_istore (ls' := [some (vR 0), some (vI 115), some (vR 11), some (vI 0), some (vI 4), some (vI 0), none]) hO dX12_items_1 rfl (Nat.le_of_ble_eq_true rfl) rfl rfl ?_
  refine aw_lsq (ls' := [some (vR 0), some (vI 115), some (vR 11), some (vI 0), some (vI 4), some (vI ((0 : Nat) : Int)), none]) rfl ?_
  exact lp1 4 0 μ rfl Fr.rf h (fun j hj => absurd hj (Nat.not_lt_zero _))
set_option maxHeartbeats 4000000 in
set_option maxRecDepth 100000 in
theorem ctM_items_112 (μ : Mm) {g : Nat → Int} {N τ : Nat} {a : Nat} {i : Nat} (hi0 : i < 6) (h : PQ g N τ μ a) : CtV PM 3 yX12_items cX12_items 7 none [vR 0, vI 112, vR 12, vI (((4 * i) : Nat) : Int), vI 4] μ (fun m => Fr (sI 12 (4 * i) 4) μ m ∧ ItO g N τ 12 (4 * i) 4 (pIt g 112 4 (sk g a) (usR 112) 0) m) := by
  refine ct_intro [some (vR 0), some (vI 112), some (vR 12), some (vI (((4 * i) : Nat) : Int)), some (vI 4), none, none] RX12 (by decide) rfl XM rfl (Nat.le_of_ble_eq_true rfl) (fun K hO => ?_)
  have hG := h.G
  have hN := hG.1
  have hpN := sk_le hG h.le
  have hX : ∃ x, x = pIt g 112 4 (sk g a) (usR 112) 0 := ⟨_, rfl⟩
  obtain ⟨X, hX⟩ := hX
  have lp2 : ∀ (f b : Nat) (s : Int) (r : Nat → Int) (m : Mm), (f : Int) + bitC s = 4 → 0 ≤ s → s ≤ 15 → sk g b = b → pIt g 112 f b r s = X → Fr (sI 12 (4 * i) 4) μ m → PQ g N τ m b → (∀ j, j < 4 → m.1 12 ((4 * i) + j) = r j) → (∀ j, j < 4 → 0 ≤ r j ∧ r j ≤ 99) → AW K 41 [some (vR 0), some (vI 112), some (vR 12), some (vI (((4 * i) : Nat) : Int)), some (vI 4), some (vI s), some (vI (itO 112 (g b)))] [] m := by
    intro f
    induction f with
    | zero =>
      intro b s r m hfb hs0 hs15 hsk e0 hf hm hw hr
      have hi := itO_rng 112 (g b)
      have hrb := hG.rng b
      have hbN := hm.le
      refine aw_aload_n hO dX12_items_41 rfl rfl ?_
      refine gM_wrong hO dX12_items_42 rfl ?_
      refine aw_cg hm.wr ?_
      refine aw_iconst hO dX12_items_45 rfl ?_
      refine aw_icmp_ne (tgt := 142) hO dX12_items_46 rfl rfl (inRlit _) (inRlit _) (fun c46 => ?_) (fun c46 => ?_)
      · exact absurd c46 (by omega)
      · refine aw_iload hO dX12_items_49 rfl rfl ?_
        refine aw_iconst hO dX12_items_51 rfl ?_
        refine aw_icmp_eq (tgt := 142) hO dX12_items_52 rfl rfl ⟨by omega, by omega⟩ (inRlit _) (fun c52 => ?_) (fun c52 => ?_)
        · refine aw_vret hO dX12_items_142 ?_
          exact ⟨rfl, hf, ItO_g (hX.symm.trans (e0.symm.trans (pIt_s (Or.inl c52)))) hr (by decide) hsk hm hw⟩
        · have hlt := hG.lt (itO_e c52)
          have hse := seen_s (k := (itO 112 (g b))) hs0 hs15 (by omega) (by omega)
          refine aw_iload hO dX12_items_55 rfl rfl ?_
          refine aw_iload hO dX12_items_57 rfl rfl ?_
          refine aw_stq (st' := [vI (((itO 112 (g b)).toNat : Nat) : Int), vI s]) (by rw [Int.toNat_of_nonneg (by omega)]) ?_
          refine aw_callSI (as := [vI s, vI (((itO 112 (g b)).toNat : Nat) : Int)]) (st := []) hO dX12_items_59 rfl (lw_t6 155 rfl rfl) kX12_has (ctM_has m s (itO 112 (g b)).toNat) (by decide) rfl rfl rfl (Nat.le_of_ble_eq_true rfl) ?_
          refine aw_ifz_ne (tgt := 142) hO dX12_items_62 rfl rfl (fun c62 => ?_) (fun c62 => ?_)
          · refine aw_vret hO dX12_items_142 ?_
            exact ⟨rfl, hf, ItO_g (hX.symm.trans (e0.symm.trans (pIt_s (Or.inr c62)))) hr (by decide) hsk hm hw⟩
          · exact absurd (hse.2 (by omega)) c62
    | succ f ih =>
      intro b s r m hfb hs0 hs15 hsk e0 hf hm hw hr
      have hi := itO_rng 112 (g b)
      have hrb := hG.rng b
      have hbN := hm.le
      refine aw_aload_n hO dX12_items_41 rfl rfl ?_
      refine gM_wrong hO dX12_items_42 rfl ?_
      refine aw_cg hm.wr ?_
      refine aw_iconst hO dX12_items_45 rfl ?_
      refine aw_icmp_ne (tgt := 142) hO dX12_items_46 rfl rfl (inRlit _) (inRlit _) (fun c46 => ?_) (fun c46 => ?_)
      · exact absurd c46 (by omega)
      · refine aw_iload hO dX12_items_49 rfl rfl ?_
        refine aw_iconst hO dX12_items_51 rfl ?_
        refine aw_icmp_eq (tgt := 142) hO dX12_items_52 rfl rfl ⟨by omega, by omega⟩ (inRlit _) (fun c52 => ?_) (fun c52 => ?_)
        · refine aw_vret hO dX12_items_142 ?_
          exact ⟨rfl, hf, ItO_g (hX.symm.trans (e0.symm.trans (pIt_s (Or.inl c52)))) hr (by decide) hsk hm hw⟩
        · have hlt := hG.lt (itO_e c52)
          have hse := seen_s (k := (itO 112 (g b))) hs0 hs15 (by omega) (by omega)
          refine aw_iload hO dX12_items_55 rfl rfl ?_
          refine aw_iload hO dX12_items_57 rfl rfl ?_
          refine aw_stq (st' := [vI (((itO 112 (g b)).toNat : Nat) : Int), vI s]) (by rw [Int.toNat_of_nonneg (by omega)]) ?_
          refine aw_callSI (as := [vI s, vI (((itO 112 (g b)).toNat : Nat) : Int)]) (st := []) hO dX12_items_59 rfl (lw_t6 155 rfl rfl) kX12_has (ctM_has m s (itO 112 (g b)).toNat) (by decide) rfl rfl rfl (Nat.le_of_ble_eq_true rfl) ?_
          refine aw_ifz_ne (tgt := 142) hO dX12_items_62 rfl rfl (fun c62 => ?_) (fun c62 => ?_)
          · refine aw_vret hO dX12_items_142 ?_
            exact ⟨rfl, hf, ItO_g (hX.symm.trans (e0.symm.trans (pIt_s (Or.inr c62)))) hr (by decide) hsk hm hw⟩
          · refine aw_iload hO dX12_items_65 rfl rfl ?_
            refine aw_iconst hO dX12_items_67 rfl ?_
            refine aw_iload hO dX12_items_68 rfl rfl ?_
            refine aw_ishl hO dX12_items_70 rfl ?_
            refine aw_ior hO dX12_items_71 rfl ?_
            refine aw_istore (ls' := [some (vR 0), some (vI 112), some (vR 12), some (vI (((4 * i) : Nat) : Int)), some (vI 4), some (vI (bOr s (bShl 1 (itO 112 (g b))))), some (vI (itO 112 (g b)))]) hO dX12_items_72 rfl (Nat.le_of_ble_eq_true rfl) rfl rfl ?_
            refine aw_aload_n hO dX12_items_74 rfl rfl ?_
            refine aw_dup hO dX12_items_75 rfl rfl ?_
            refine gM_at hO dX12_items_76 rfl ?_
            refine aw_cg hm.at ?_
            refine aw_iconst hO dX12_items_79 rfl ?_
            refine aw_iadd hO dX12_items_80 rfl ?_
            refine pM_at hO dX12_items_81 rfl ?_
            refine aw_mm (fun μ1 e_μ1 => ?_)
            have hp_μ1 := hm.to (b := (b + 1)) (by omega) (show μ1 = mst m 0 3 (((b + 1) : Nat) : Int) by rw [e_μ1]; congr 1 <;> omega)
            have hf_μ1 : Fr (sI 12 (4 * i) 4) μ μ1 := by rw [e_μ1]; exact hf.st (Or.inl ⟨rfl, Or.inl rfl⟩) _
            have hw_μ1 : ∀ j, j < 4 → μ1.1 12 ((4 * i) + j) = r j := fun j hj => by rw [e_μ1, mst_nk (by decide)]; exact hw j hj
            refine aw_aload_n hO dX12_items_84 rfl rfl ?_
            refine aw_iload_n hO dX12_items_85 rfl rfl ?_
            refine aw_iload hO dX12_items_86 rfl rfl ?_
            refine aw_iadd hO dX12_items_88 rfl ?_
            refine aw_aload_n hO dX12_items_89 rfl rfl ?_
            refine aw_iload_n hO dX12_items_90 rfl rfl ?_
            refine aw_bipush hO dX12_items_91 rfl (by decide) (by decide) ?_
            refine aw_icmp_ne (tgt := 106) hO dX12_items_93 rfl rfl (inRlit _) (inRlit _) (fun c93 => ?_) (fun c93 => ?_)
            · refine aw_iconst hO dX12_items_106 rfl ?_
              refine aw_iload_n hO dX12_items_107 rfl rfl ?_
              refine aw_iload hO dX12_items_108 rfl rfl ?_
              refine aw_callSI (as := [vI 112, vI (itO 112 (g b))]) (st := [vI 0, vR 0, vI ((((4 * i) : Nat) : Int) + (itO 112 (g b))), vR 12]) hO dX12_items_110 rfl (lw_t6 158 rfl rfl) kX12_highest (ctM_highest_112 μ1 (v := (itO 112 (g b))) ⟨by omega, by omega⟩) (by decide) rfl rfl rfl (Nat.le_of_ble_eq_true rfl) ?_
              have hlo : 0 = loO 112 (itO 112 (g b)) := by unfold loO; rw [if_neg (by omega)]
              have hlr := loO_rng 112 (itO 112 (g b))
              have hhr := hiO_rng 112 (itO 112 (g b))
              refine aw_stq (st' := [vI (hiO 112 (itO 112 (g b))), vI (loO 112 (itO 112 (g b))), vR 0, vI ((((4 * i) : Nat) : Int) + (itO 112 (g b))), vR 12]) (by rw [← hlo]) ?_
              refine aw_callVE (as := [vI (loO 112 (itO 112 (g b))), vI (hiO 112 (itO 112 (g b)))]) (st := [vI ((((4 * i) : Nat) : Int) + (itO 112 (g b))), vR 12]) hO dX12_items_113 rfl (lw_t6 161 rfl rfl) kX12_number (T := TX12) rfl (by decide) rfl (ctM_number μ1 (lo := (loO 112 (itO 112 (g b)))) (hi := (hiO 112 (itO 112 (g b)))) hp_μ1 (by omega) (by omega) (by omega) (by omega)) (by decide) rfl rfl rfl (Nat.le_of_ble_eq_true rfl) (fun v2 μ3 hq4 => ?_)
              obtain ⟨hf0_μ3, hv_v2, hb0_μ3, hg0_μ3⟩ := hq4
              have hf_μ3 : Fr (sI 12 (4 * i) 4) μ μ3 := hf_μ1.tr (hf0_μ3.mono fun _ _ => sE_I)
              have hw_μ3 : ∀ j, j < 4 → μ3.1 12 ((4 * i) + j) = r j := fun j hj => (hf0_μ3.1 12 _ (by unfold sE; omega)).trans (hw_μ1 j hj)
              rcases hx : pNb g (loO 112 (itO 112 (g b))) (hiO 112 (itO 112 (g b))) (sk g (b + 1)) with ⟨q, _ | x⟩
              · have hb_μ3 := hb0_μ3 q hx
                have hqN := hb_μ3.2.2
                refine aw_iastn (N := 24) (i := ((4 * i) + (itO 112 (g b)).toNat)) hO dX12_items_116 rfl (by decide) rfl (by decide) (by omega) (by omega) ?_
                refine aw_mm (fun μ5 e_μ5 => ?_)
                have hf_μ5 : Fr (sI 12 (4 * i) 4) μ μ5 := by rw [e_μ5]; exact hf_μ3.st (Or.inr ⟨rfl, by omega, by omega⟩) _
                have hw_μ5 : ∀ j, j < 4 → μ5.1 12 ((4 * i) + j) = fu r (itO 112 (g b)).toNat v2 j := fun j hj => by
                  by_cases ej : j = (itO 112 (g b)).toNat
                  · rw [ej, fu_eq, e_μ5, mst_eq]
                  · rw [fu_ne ej, e_μ5, mst_ni (by omega)]; exact hw_μ3 j hj
                have hr2 : ∀ j, j < 4 → 0 ≤ fu r (itO 112 (g b)).toNat v2 j ∧ fu r (itO 112 (g b)).toNat v2 j ≤ 99 := fun j hj => by
                  by_cases ej : j = (itO 112 (g b)).toNat
                  · rw [ej, fu_eq]; exact hv_v2
                  · rw [fu_ne ej]; exact hr j hj
                have hb_μ5 := hb_μ3.off e_μ5 (by decide)
                refine aw_aload_n hO dX12_items_117 rfl rfl ?_
                refine gM_wrong hO dX12_items_118 rfl ?_
                refine aw_cg hb_μ5.2.1 ?_
                refine aw_iconst hO dX12_items_121 rfl ?_
                refine aw_icmp_ne (tgt := 136) hO dX12_items_122 rfl rfl (inRn (by omega)) (inRlit _) (fun c122 => ?_) (fun c122 => ?_)
                · refine aw_iconst hO dX12_items_136 rfl ?_
                  refine aw_istore (ls' := [some (vR 0), some (vI 112), some (vR 12), some (vI (((4 * i) : Nat) : Int)), some (vI 4), some (vI (bOr s (bShl 1 (itO 112 (g b))))), some (vI (-1))]) hO dX12_items_137 rfl (Nat.le_of_ble_eq_true rfl) rfl rfl ?_
                  refine aw_goto (tgt := 41) hO dX12_items_139 rfl ?_
                  refine aw_aload_n hO dX12_items_41 rfl rfl ?_
                  refine gM_wrong hO dX12_items_42 rfl ?_
                  refine aw_cg hb_μ5.2.1 ?_
                  refine aw_iconst hO dX12_items_45 rfl ?_
                  refine aw_icmp_ne (tgt := 142) hO dX12_items_46 rfl rfl (inRn (by omega)) (inRlit _) (fun c46 => ?_) (fun c46 => ?_)
                  · refine aw_vret hO dX12_items_142 ?_
                    exact ⟨rfl, hf_μ5, ItO_b (hX.symm.trans (e0.symm.trans (pIt_b (fun h => h.elim c52 c62) hx))) (fun j hj => by rw [hw_μ5 j hj]; exact hr2 j (by omega)) hb_μ5⟩
                  · exact absurd c46 (by omega)
                · exact absurd c122 (by omega)
              · obtain ⟨e_v2, b2, hs2, hp_μ3⟩ := hg0_μ3 q x hx
                have ev := e_v2
                obtain ⟨z1, z2, z3, z4, z5⟩ := (pNb_G hG (sk_le hG (by omega))).2 q x hx
                refine aw_iastn (N := 24) (i := ((4 * i) + (itO 112 (g b)).toNat)) hO dX12_items_116 rfl (by decide) rfl (by decide) (by omega) (by omega) ?_
                refine aw_mm (fun μ6 e_μ6 => ?_)
                have hf_μ6 : Fr (sI 12 (4 * i) 4) μ μ6 := by rw [e_μ6]; exact hf_μ3.st (Or.inr ⟨rfl, by omega, by omega⟩) _
                have hw_μ6 : ∀ j, j < 4 → μ6.1 12 ((4 * i) + j) = fu r (itO 112 (g b)).toNat v2 j := fun j hj => by
                  by_cases ej : j = (itO 112 (g b)).toNat
                  · rw [ej, fu_eq, e_μ6, mst_eq]
                  · rw [fu_ne ej, e_μ6, mst_ni (by omega)]; exact hw_μ3 j hj
                have hr2 : ∀ j, j < 4 → 0 ≤ fu r (itO 112 (g b)).toNat v2 j ∧ fu r (itO 112 (g b)).toNat v2 j ≤ 99 := fun j hj => by
                  by_cases ej : j = (itO 112 (g b)).toNat
                  · rw [ej, fu_eq]; exact hv_v2
                  · rw [fu_ne ej]; exact hr j hj
                have hp_μ6 := hp_μ3.off e_μ6 (by decide)
                refine aw_aload_n hO dX12_items_117 rfl rfl ?_
                refine gM_wrong hO dX12_items_118 rfl ?_
                refine aw_cg hp_μ6.wr ?_
                refine aw_iconst hO dX12_items_121 rfl ?_
                refine aw_icmp_ne (tgt := 136) hO dX12_items_122 rfl rfl (inRlit _) (inRlit _) (fun c122 => ?_) (fun c122 => ?_)
                · exact absurd c122 (by omega)
                · refine aw_iload_n hO dX12_items_125 rfl rfl ?_
                  refine aw_aload_n hO dX12_items_126 rfl rfl ?_
                  refine aw_callVE (as := []) (st := [vI 112]) hO dX12_items_127 rfl (lw_t6 140 rfl rfl) kX12_look (T := TX12) rfl (by decide) rfl (ctM_look μ6 hp_μ6.1 hp_μ6.at hp_μ6.le) (by decide) rfl rfl rfl (Nat.le_of_ble_eq_true rfl) (fun v7 μ8 hq9 => ?_)
                  obtain ⟨e_v7, e_μ8⟩ := hq9
                  subst e_v7
                  have hp_μ8 := hp_μ6.to (sk_le hp_μ6.G hp_μ6.le) e_μ8
                  have hf_μ8 : Fr (sI 12 (4 * i) 4) μ μ8 := by rw [e_μ8]; exact hf_μ6.st (Or.inl ⟨rfl, Or.inl rfl⟩) _
                  have hr_μ8 := hp_μ6.G.rng (sk g b2)
                  have hw_μ8 : ∀ j, j < 4 → μ8.1 12 ((4 * i) + j) = fu r (itO 112 (g b)).toNat v2 j := fun j hj => by rw [e_μ8, mst_nk (by decide)]; exact hw_μ6 j hj
                  rw [hs2] at hp_μ8 hr_μ8 ⊢
                  refine aw_callSI (as := [vI 112, vI (g q)]) (st := []) hO dX12_items_130 rfl (lw_t6 152 rfl rfl) kX12_itemOf (ctM_itemOf_112 μ8 (v := (g q)) ⟨by omega, by omega⟩) (by decide) rfl rfl rfl (Nat.le_of_ble_eq_true rfl) ?_
                  refine aw_goto (tgt := 137) hO dX12_items_133 rfl ?_
                  refine aw_istore (ls' := [some (vR 0), some (vI 112), some (vR 12), some (vI (((4 * i) : Nat) : Int)), some (vI 4), some (vI (bOr s (bShl 1 (itO 112 (g b))))), some (vI (itO 112 (g q)))]) hO dX12_items_137 rfl (Nat.le_of_ble_eq_true rfl) rfl rfl ?_
                  refine aw_goto (tgt := 41) hO dX12_items_139 rfl ?_
                  exact ih q (bOr s (bShl 1 (itO 112 (g b)))) (fu r (itO 112 (g b)).toNat v2) μ8 (by have := hse.1.resolve_left c62; omega) (hse.1.resolve_left c62).2.1 (hse.1.resolve_left c62).2.2 z3 (by rw [ev, ← pIt_g (fun h => h.elim c52 c62) hx]; exact e0) hf_μ8 hp_μ8 hw_μ8 hr2
            · exact absurd c93 (by omega)
  have lp1 : ∀ (c k : Nat) (m : Mm), k + c = 4 → Fr (sI 12 (4 * i) 4) μ m → PQ g N τ m a → (∀ j, j < k → m.1 12 ((4 * i) + j) = usR 112 j) → AW K 3 [some (vR 0), some (vI 112), some (vR 12), some (vI (((4 * i) : Nat) : Int)), some (vI 4), some (vI ((k : Nat) : Int)), none] [] m := by
    intro c
    induction c with
    | zero =>
      intro k m hk hf hm hw
      have hk4 : k = 4 := by omega
      subst hk4
      refine aw_iload hO dX12_items_3 rfl rfl ?_
      refine aw_iload hO dX12_items_5 rfl rfl ?_
      refine aw_icmp_ge (tgt := 28) hO dX12_items_7 rfl rfl (inRn (by omega)) (inRlit _) (fun c7 => ?_) (fun c7 => ?_)
      · refine aw_iconst hO dX12_items_28 rfl ?_
        refine aw_istore (ls' := [some (vR 0), some (vI 112), some (vR 12), some (vI (((4 * i) : Nat) : Int)), some (vI 4), some (vI 0), none]) hO dX12_items_29 rfl (Nat.le_of_ble_eq_true rfl) rfl rfl ?_
        refine aw_iload_n hO dX12_items_31 rfl rfl ?_
        refine aw_aload_n hO dX12_items_32 rfl rfl ?_
        refine aw_callVE (as := []) (st := [vI 112]) hO dX12_items_33 rfl (lw_t6 140 rfl rfl) kX12_look (T := TX12) rfl (by decide) rfl (ctM_look m hm.1 hm.at hm.le) (by decide) rfl rfl rfl (Nat.le_of_ble_eq_true rfl) (fun v10 μ11 hq12 => ?_)
        obtain ⟨e_v10, e_μ11⟩ := hq12
        subst e_v10
        have hp_μ11 := hm.to (sk_le hm.G hm.le) e_μ11
        have hf_μ11 : Fr (sI 12 (4 * i) 4) μ μ11 := by rw [e_μ11]; exact hf.st (Or.inl ⟨rfl, Or.inl rfl⟩) _
        have hr_μ11 := hm.G.rng (sk g a)
        have hw_μ11 : ∀ j, j < 4 → μ11.1 12 ((4 * i) + j) = usR 112 j := fun j hj => by rw [e_μ11, mst_nk (by decide)]; exact hw j hj
        refine aw_callSI (as := [vI 112, vI (g (sk g a))]) (st := []) hO dX12_items_36 rfl (lw_t6 152 rfl rfl) kX12_itemOf (ctM_itemOf_112 μ11 (v := (g (sk g a))) ⟨by omega, by omega⟩) (by decide) rfl rfl rfl (Nat.le_of_ble_eq_true rfl) ?_
        refine aw_istore (ls' := [some (vR 0), some (vI 112), some (vR 12), some (vI (((4 * i) : Nat) : Int)), some (vI 4), some (vI 0), some (vI (itO 112 (g (sk g a))))]) hO dX12_items_39 rfl (Nat.le_of_ble_eq_true rfl) rfl rfl ?_
        exact lp2 4 (sk g a) 0 (usR 112) μ11 (by decide) (by decide) (by decide) (sk_sk hG _) hX.symm hf_μ11 hp_μ11 hw_μ11 (fun j hj => by have := usO_rng 112 (j : Int); unfold usR; omega)
      · exact absurd c7 (by omega)
    | succ c ih =>
      intro k m hk hf hm hw
      refine aw_iload hO dX12_items_3 rfl rfl ?_
      refine aw_iload hO dX12_items_5 rfl rfl ?_
      refine aw_icmp_ge (tgt := 28) hO dX12_items_7 rfl rfl (inRn (by omega)) (inRlit _) (fun c7 => ?_) (fun c7 => ?_)
      · exact absurd c7 (by omega)
      · refine aw_aload_n hO dX12_items_10 rfl rfl ?_
        refine aw_iload_n hO dX12_items_11 rfl rfl ?_
        refine aw_iload hO dX12_items_12 rfl rfl ?_
        refine aw_iadd hO dX12_items_14 rfl ?_
        refine aw_iload_n hO dX12_items_15 rfl rfl ?_
        refine aw_iload hO dX12_items_16 rfl rfl ?_
        refine aw_callSI (as := [vI 112, vI ((k : Nat) : Int)]) (st := [vI ((((4 * i) : Nat) : Int) + ((k : Nat) : Int)), vR 12]) hO dX12_items_18 rfl (lw_t6 137 rfl rfl) kX12_usual (ctM_usual_112 m (v := ((k : Nat) : Int)) (inRn (by omega))) (by decide) rfl rfl rfl (Nat.le_of_ble_eq_true rfl) ?_
        refine aw_iastn (N := 24) (i := ((4 * i) + k)) hO dX12_items_21 rfl (by decide) rfl (by decide) (by omega) (by omega) ?_
        refine aw_mm (fun μ13 e_μ13 => ?_)
        have hf_μ13 : Fr (sI 12 (4 * i) 4) μ μ13 := by rw [e_μ13]; exact hf.st (Or.inr ⟨rfl, by omega, by omega⟩) _
        have hp_μ13 := hm.off e_μ13 (by decide)
        have hw_μ13 : ∀ j, j < k + 1 → μ13.1 12 ((4 * i) + j) = usR 112 j := fun j hj => by
          by_cases ej : j = k
          · rw [ej, e_μ13, mst_eq]; rfl
          · rw [e_μ13, mst_ni (by omega)]; exact hw j (by omega)
        refine aw_iinc (ls' := [some (vR 0), some (vI 112), some (vR 12), some (vI (((4 * i) : Nat) : Int)), some (vI 4), some (vI (((k : Nat) : Int) + 1)), none]) hO dX12_items_22 rfl rfl rfl rfl ?_
        refine aw_lsq (ls' := [some (vR 0), some (vI 112), some (vR 12), some (vI (((4 * i) : Nat) : Int)), some (vI 4), some (vI (((k + 1) : Nat) : Int)), none]) rfl ?_
        refine aw_goto (tgt := 3) hO dX12_items_25 rfl ?_
        exact ih (k + 1) μ13 (by omega) hf_μ13 hp_μ13 hw_μ13
  refine aw_iconst hO dX12_items_0 rfl ?_
  refine aw_istore (ls' := [some (vR 0), some (vI 112), some (vR 12), some (vI (((4 * i) : Nat) : Int)), some (vI 4), some (vI 0), none]) hO dX12_items_1 rfl (Nat.le_of_ble_eq_true rfl) rfl rfl ?_
  refine aw_lsq (ls' := [some (vR 0), some (vI 112), some (vR 12), some (vI (((4 * i) : Nat) : Int)), some (vI 4), some (vI ((0 : Nat) : Int)), none]) rfl ?_
  exact lp1 4 0 μ rfl Fr.rf h (fun j hj => absurd hj (Nat.not_lt_zero _))
set_option maxHeartbeats 4000000 in
set_option maxRecDepth 100000 in
theorem ctM_items_116 (μ : Mm) {g : Nat → Int} {N τ : Nat} {a : Nat} {i : Nat} (hi0 : i < 5) (h : PQ g N τ μ a) : CtV PM 3 yX12_items cX12_items 7 none [vR 0, vI 116, vR 13, vI (((3 * i) : Nat) : Int), vI 3] μ (fun m => Fr (sI 13 (3 * i) 3) μ m ∧ ItO g N τ 13 (3 * i) 3 (pIt g 116 4 (sk g a) (usR 116) 0) m) := by
  refine ct_intro [some (vR 0), some (vI 116), some (vR 13), some (vI (((3 * i) : Nat) : Int)), some (vI 3), none, none] RX12 (by decide) rfl XM rfl (Nat.le_of_ble_eq_true rfl) (fun K hO => ?_)
  have hG := h.G
  have hN := hG.1
  have hpN := sk_le hG h.le
  have hX : ∃ x, x = pIt g 116 4 (sk g a) (usR 116) 0 := ⟨_, rfl⟩
  obtain ⟨X, hX⟩ := hX
  have lp2 : ∀ (f b : Nat) (s : Int) (r : Nat → Int) (m : Mm), (f : Int) + bitC s = 4 → 0 ≤ s → s ≤ 15 → sk g b = b → pIt g 116 f b r s = X → Fr (sI 13 (3 * i) 3) μ m → PQ g N τ m b → (∀ j, j < 3 → m.1 13 ((3 * i) + j) = r j) → (∀ j, j < 4 → 0 ≤ r j ∧ r j ≤ 99) → AW K 41 [some (vR 0), some (vI 116), some (vR 13), some (vI (((3 * i) : Nat) : Int)), some (vI 3), some (vI s), some (vI (itO 116 (g b)))] [] m := by
    intro f
    induction f with
    | zero =>
      intro b s r m hfb hs0 hs15 hsk e0 hf hm hw hr
      have hi := itO_rng 116 (g b)
      have hrb := hG.rng b
      have hbN := hm.le
      have hi2 : itO 116 (g b) ≤ 2 := itO_3 (by decide) (by decide)
      refine aw_aload_n hO dX12_items_41 rfl rfl ?_
      refine gM_wrong hO dX12_items_42 rfl ?_
      refine aw_cg hm.wr ?_
      refine aw_iconst hO dX12_items_45 rfl ?_
      refine aw_icmp_ne (tgt := 142) hO dX12_items_46 rfl rfl (inRlit _) (inRlit _) (fun c46 => ?_) (fun c46 => ?_)
      · exact absurd c46 (by omega)
      · refine aw_iload hO dX12_items_49 rfl rfl ?_
        refine aw_iconst hO dX12_items_51 rfl ?_
        refine aw_icmp_eq (tgt := 142) hO dX12_items_52 rfl rfl ⟨by omega, by omega⟩ (inRlit _) (fun c52 => ?_) (fun c52 => ?_)
        · refine aw_vret hO dX12_items_142 ?_
          exact ⟨rfl, hf, ItO_g (hX.symm.trans (e0.symm.trans (pIt_s (Or.inl c52)))) hr (by decide) hsk hm hw⟩
        · have hlt := hG.lt (itO_e c52)
          have hse := seen_s (k := (itO 116 (g b))) hs0 hs15 (by omega) (by omega)
          refine aw_iload hO dX12_items_55 rfl rfl ?_
          refine aw_iload hO dX12_items_57 rfl rfl ?_
          refine aw_stq (st' := [vI (((itO 116 (g b)).toNat : Nat) : Int), vI s]) (by rw [Int.toNat_of_nonneg (by omega)]) ?_
          refine aw_callSI (as := [vI s, vI (((itO 116 (g b)).toNat : Nat) : Int)]) (st := []) hO dX12_items_59 rfl (lw_t6 155 rfl rfl) kX12_has (ctM_has m s (itO 116 (g b)).toNat) (by decide) rfl rfl rfl (Nat.le_of_ble_eq_true rfl) ?_
          refine aw_ifz_ne (tgt := 142) hO dX12_items_62 rfl rfl (fun c62 => ?_) (fun c62 => ?_)
          · refine aw_vret hO dX12_items_142 ?_
            exact ⟨rfl, hf, ItO_g (hX.symm.trans (e0.symm.trans (pIt_s (Or.inr c62)))) hr (by decide) hsk hm hw⟩
          · exact absurd (hse.2 (by omega)) c62
    | succ f ih =>
      intro b s r m hfb hs0 hs15 hsk e0 hf hm hw hr
      have hi := itO_rng 116 (g b)
      have hrb := hG.rng b
      have hbN := hm.le
      have hi2 : itO 116 (g b) ≤ 2 := itO_3 (by decide) (by decide)
      refine aw_aload_n hO dX12_items_41 rfl rfl ?_
      refine gM_wrong hO dX12_items_42 rfl ?_
      refine aw_cg hm.wr ?_
      refine aw_iconst hO dX12_items_45 rfl ?_
      refine aw_icmp_ne (tgt := 142) hO dX12_items_46 rfl rfl (inRlit _) (inRlit _) (fun c46 => ?_) (fun c46 => ?_)
      · exact absurd c46 (by omega)
      · refine aw_iload hO dX12_items_49 rfl rfl ?_
        refine aw_iconst hO dX12_items_51 rfl ?_
        refine aw_icmp_eq (tgt := 142) hO dX12_items_52 rfl rfl ⟨by omega, by omega⟩ (inRlit _) (fun c52 => ?_) (fun c52 => ?_)
        · refine aw_vret hO dX12_items_142 ?_
          exact ⟨rfl, hf, ItO_g (hX.symm.trans (e0.symm.trans (pIt_s (Or.inl c52)))) hr (by decide) hsk hm hw⟩
        · have hlt := hG.lt (itO_e c52)
          have hse := seen_s (k := (itO 116 (g b))) hs0 hs15 (by omega) (by omega)
          refine aw_iload hO dX12_items_55 rfl rfl ?_
          refine aw_iload hO dX12_items_57 rfl rfl ?_
          refine aw_stq (st' := [vI (((itO 116 (g b)).toNat : Nat) : Int), vI s]) (by rw [Int.toNat_of_nonneg (by omega)]) ?_
          refine aw_callSI (as := [vI s, vI (((itO 116 (g b)).toNat : Nat) : Int)]) (st := []) hO dX12_items_59 rfl (lw_t6 155 rfl rfl) kX12_has (ctM_has m s (itO 116 (g b)).toNat) (by decide) rfl rfl rfl (Nat.le_of_ble_eq_true rfl) ?_
          refine aw_ifz_ne (tgt := 142) hO dX12_items_62 rfl rfl (fun c62 => ?_) (fun c62 => ?_)
          · refine aw_vret hO dX12_items_142 ?_
            exact ⟨rfl, hf, ItO_g (hX.symm.trans (e0.symm.trans (pIt_s (Or.inr c62)))) hr (by decide) hsk hm hw⟩
          · refine aw_iload hO dX12_items_65 rfl rfl ?_
            refine aw_iconst hO dX12_items_67 rfl ?_
            refine aw_iload hO dX12_items_68 rfl rfl ?_
            refine aw_ishl hO dX12_items_70 rfl ?_
            refine aw_ior hO dX12_items_71 rfl ?_
            refine aw_istore (ls' := [some (vR 0), some (vI 116), some (vR 13), some (vI (((3 * i) : Nat) : Int)), some (vI 3), some (vI (bOr s (bShl 1 (itO 116 (g b))))), some (vI (itO 116 (g b)))]) hO dX12_items_72 rfl (Nat.le_of_ble_eq_true rfl) rfl rfl ?_
            refine aw_aload_n hO dX12_items_74 rfl rfl ?_
            refine aw_dup hO dX12_items_75 rfl rfl ?_
            refine gM_at hO dX12_items_76 rfl ?_
            refine aw_cg hm.at ?_
            refine aw_iconst hO dX12_items_79 rfl ?_
            refine aw_iadd hO dX12_items_80 rfl ?_
            refine pM_at hO dX12_items_81 rfl ?_
            refine aw_mm (fun μ1 e_μ1 => ?_)
            have hp_μ1 := hm.to (b := (b + 1)) (by omega) (show μ1 = mst m 0 3 (((b + 1) : Nat) : Int) by rw [e_μ1]; congr 1 <;> omega)
            have hf_μ1 : Fr (sI 13 (3 * i) 3) μ μ1 := by rw [e_μ1]; exact hf.st (Or.inl ⟨rfl, Or.inl rfl⟩) _
            have hw_μ1 : ∀ j, j < 3 → μ1.1 13 ((3 * i) + j) = r j := fun j hj => by rw [e_μ1, mst_nk (by decide)]; exact hw j hj
            refine aw_aload_n hO dX12_items_84 rfl rfl ?_
            refine aw_iload_n hO dX12_items_85 rfl rfl ?_
            refine aw_iload hO dX12_items_86 rfl rfl ?_
            refine aw_iadd hO dX12_items_88 rfl ?_
            refine aw_aload_n hO dX12_items_89 rfl rfl ?_
            refine aw_iload_n hO dX12_items_90 rfl rfl ?_
            refine aw_bipush hO dX12_items_91 rfl (by decide) (by decide) ?_
            refine aw_icmp_ne (tgt := 106) hO dX12_items_93 rfl rfl (inRlit _) (inRlit _) (fun c93 => ?_) (fun c93 => ?_)
            · exact absurd c93 (by omega)
            · refine aw_iload hO dX12_items_96 rfl rfl ?_
              refine aw_iconst hO dX12_items_98 rfl ?_
              refine aw_icmp_ne (tgt := 106) hO dX12_items_99 rfl rfl ⟨by omega, by omega⟩ (inRlit _) (fun c99 => ?_) (fun c99 => ?_)
              · refine aw_iconst hO dX12_items_106 rfl ?_
                refine aw_iload_n hO dX12_items_107 rfl rfl ?_
                refine aw_iload hO dX12_items_108 rfl rfl ?_
                refine aw_callSI (as := [vI 116, vI (itO 116 (g b))]) (st := [vI 0, vR 0, vI ((((3 * i) : Nat) : Int) + (itO 116 (g b))), vR 13]) hO dX12_items_110 rfl (lw_t6 158 rfl rfl) kX12_highest (ctM_highest_116 μ1 (v := (itO 116 (g b))) ⟨by omega, by omega⟩) (by decide) rfl rfl rfl (Nat.le_of_ble_eq_true rfl) ?_
                have hlo : 0 = loO 116 (itO 116 (g b)) := by unfold loO; rw [if_neg (by omega)]
                have hlr := loO_rng 116 (itO 116 (g b))
                have hhr := hiO_rng 116 (itO 116 (g b))
                refine aw_stq (st' := [vI (hiO 116 (itO 116 (g b))), vI (loO 116 (itO 116 (g b))), vR 0, vI ((((3 * i) : Nat) : Int) + (itO 116 (g b))), vR 13]) (by rw [← hlo]) ?_
                refine aw_callVE (as := [vI (loO 116 (itO 116 (g b))), vI (hiO 116 (itO 116 (g b)))]) (st := [vI ((((3 * i) : Nat) : Int) + (itO 116 (g b))), vR 13]) hO dX12_items_113 rfl (lw_t6 161 rfl rfl) kX12_number (T := TX12) rfl (by decide) rfl (ctM_number μ1 (lo := (loO 116 (itO 116 (g b)))) (hi := (hiO 116 (itO 116 (g b)))) hp_μ1 (by omega) (by omega) (by omega) (by omega)) (by decide) rfl rfl rfl (Nat.le_of_ble_eq_true rfl) (fun v2 μ3 hq4 => ?_)
                obtain ⟨hf0_μ3, hv_v2, hb0_μ3, hg0_μ3⟩ := hq4
                have hf_μ3 : Fr (sI 13 (3 * i) 3) μ μ3 := hf_μ1.tr (hf0_μ3.mono fun _ _ => sE_I)
                have hw_μ3 : ∀ j, j < 3 → μ3.1 13 ((3 * i) + j) = r j := fun j hj => (hf0_μ3.1 13 _ (by unfold sE; omega)).trans (hw_μ1 j hj)
                rcases hx : pNb g (loO 116 (itO 116 (g b))) (hiO 116 (itO 116 (g b))) (sk g (b + 1)) with ⟨q, _ | x⟩
                · have hb_μ3 := hb0_μ3 q hx
                  have hqN := hb_μ3.2.2
                  refine aw_iastn (N := 15) (i := ((3 * i) + (itO 116 (g b)).toNat)) hO dX12_items_116 rfl (by decide) rfl (by decide) (by omega) (by omega) ?_
                  refine aw_mm (fun μ5 e_μ5 => ?_)
                  have hf_μ5 : Fr (sI 13 (3 * i) 3) μ μ5 := by rw [e_μ5]; exact hf_μ3.st (Or.inr ⟨rfl, by omega, by omega⟩) _
                  have hw_μ5 : ∀ j, j < 3 → μ5.1 13 ((3 * i) + j) = fu r (itO 116 (g b)).toNat v2 j := fun j hj => by
                    by_cases ej : j = (itO 116 (g b)).toNat
                    · rw [ej, fu_eq, e_μ5, mst_eq]
                    · rw [fu_ne ej, e_μ5, mst_ni (by omega)]; exact hw_μ3 j hj
                  have hr2 : ∀ j, j < 4 → 0 ≤ fu r (itO 116 (g b)).toNat v2 j ∧ fu r (itO 116 (g b)).toNat v2 j ≤ 99 := fun j hj => by
                    by_cases ej : j = (itO 116 (g b)).toNat
                    · rw [ej, fu_eq]; exact hv_v2
                    · rw [fu_ne ej]; exact hr j hj
                  have hb_μ5 := hb_μ3.off e_μ5 (by decide)
                  refine aw_aload_n hO dX12_items_117 rfl rfl ?_
                  refine gM_wrong hO dX12_items_118 rfl ?_
                  refine aw_cg hb_μ5.2.1 ?_
                  refine aw_iconst hO dX12_items_121 rfl ?_
                  refine aw_icmp_ne (tgt := 136) hO dX12_items_122 rfl rfl (inRn (by omega)) (inRlit _) (fun c122 => ?_) (fun c122 => ?_)
                  · refine aw_iconst hO dX12_items_136 rfl ?_
                    refine aw_istore (ls' := [some (vR 0), some (vI 116), some (vR 13), some (vI (((3 * i) : Nat) : Int)), some (vI 3), some (vI (bOr s (bShl 1 (itO 116 (g b))))), some (vI (-1))]) hO dX12_items_137 rfl (Nat.le_of_ble_eq_true rfl) rfl rfl ?_
                    refine aw_goto (tgt := 41) hO dX12_items_139 rfl ?_
                    refine aw_aload_n hO dX12_items_41 rfl rfl ?_
                    refine gM_wrong hO dX12_items_42 rfl ?_
                    refine aw_cg hb_μ5.2.1 ?_
                    refine aw_iconst hO dX12_items_45 rfl ?_
                    refine aw_icmp_ne (tgt := 142) hO dX12_items_46 rfl rfl (inRn (by omega)) (inRlit _) (fun c46 => ?_) (fun c46 => ?_)
                    · refine aw_vret hO dX12_items_142 ?_
                      exact ⟨rfl, hf_μ5, ItO_b (hX.symm.trans (e0.symm.trans (pIt_b (fun h => h.elim c52 c62) hx))) (fun j hj => by rw [hw_μ5 j hj]; exact hr2 j (by omega)) hb_μ5⟩
                    · exact absurd c46 (by omega)
                  · exact absurd c122 (by omega)
                · obtain ⟨e_v2, b2, hs2, hp_μ3⟩ := hg0_μ3 q x hx
                  have ev := e_v2
                  obtain ⟨z1, z2, z3, z4, z5⟩ := (pNb_G hG (sk_le hG (by omega))).2 q x hx
                  refine aw_iastn (N := 15) (i := ((3 * i) + (itO 116 (g b)).toNat)) hO dX12_items_116 rfl (by decide) rfl (by decide) (by omega) (by omega) ?_
                  refine aw_mm (fun μ6 e_μ6 => ?_)
                  have hf_μ6 : Fr (sI 13 (3 * i) 3) μ μ6 := by rw [e_μ6]; exact hf_μ3.st (Or.inr ⟨rfl, by omega, by omega⟩) _
                  have hw_μ6 : ∀ j, j < 3 → μ6.1 13 ((3 * i) + j) = fu r (itO 116 (g b)).toNat v2 j := fun j hj => by
                    by_cases ej : j = (itO 116 (g b)).toNat
                    · rw [ej, fu_eq, e_μ6, mst_eq]
                    · rw [fu_ne ej, e_μ6, mst_ni (by omega)]; exact hw_μ3 j hj
                  have hr2 : ∀ j, j < 4 → 0 ≤ fu r (itO 116 (g b)).toNat v2 j ∧ fu r (itO 116 (g b)).toNat v2 j ≤ 99 := fun j hj => by
                    by_cases ej : j = (itO 116 (g b)).toNat
                    · rw [ej, fu_eq]; exact hv_v2
                    · rw [fu_ne ej]; exact hr j hj
                  have hp_μ6 := hp_μ3.off e_μ6 (by decide)
                  refine aw_aload_n hO dX12_items_117 rfl rfl ?_
                  refine gM_wrong hO dX12_items_118 rfl ?_
                  refine aw_cg hp_μ6.wr ?_
                  refine aw_iconst hO dX12_items_121 rfl ?_
                  refine aw_icmp_ne (tgt := 136) hO dX12_items_122 rfl rfl (inRlit _) (inRlit _) (fun c122 => ?_) (fun c122 => ?_)
                  · exact absurd c122 (by omega)
                  · refine aw_iload_n hO dX12_items_125 rfl rfl ?_
                    refine aw_aload_n hO dX12_items_126 rfl rfl ?_
                    refine aw_callVE (as := []) (st := [vI 116]) hO dX12_items_127 rfl (lw_t6 140 rfl rfl) kX12_look (T := TX12) rfl (by decide) rfl (ctM_look μ6 hp_μ6.1 hp_μ6.at hp_μ6.le) (by decide) rfl rfl rfl (Nat.le_of_ble_eq_true rfl) (fun v7 μ8 hq9 => ?_)
                    obtain ⟨e_v7, e_μ8⟩ := hq9
                    subst e_v7
                    have hp_μ8 := hp_μ6.to (sk_le hp_μ6.G hp_μ6.le) e_μ8
                    have hf_μ8 : Fr (sI 13 (3 * i) 3) μ μ8 := by rw [e_μ8]; exact hf_μ6.st (Or.inl ⟨rfl, Or.inl rfl⟩) _
                    have hr_μ8 := hp_μ6.G.rng (sk g b2)
                    have hw_μ8 : ∀ j, j < 3 → μ8.1 13 ((3 * i) + j) = fu r (itO 116 (g b)).toNat v2 j := fun j hj => by rw [e_μ8, mst_nk (by decide)]; exact hw_μ6 j hj
                    rw [hs2] at hp_μ8 hr_μ8 ⊢
                    refine aw_callSI (as := [vI 116, vI (g q)]) (st := []) hO dX12_items_130 rfl (lw_t6 152 rfl rfl) kX12_itemOf (ctM_itemOf_116 μ8 (v := (g q)) ⟨by omega, by omega⟩) (by decide) rfl rfl rfl (Nat.le_of_ble_eq_true rfl) ?_
                    refine aw_goto (tgt := 137) hO dX12_items_133 rfl ?_
                    refine aw_istore (ls' := [some (vR 0), some (vI 116), some (vR 13), some (vI (((3 * i) : Nat) : Int)), some (vI 3), some (vI (bOr s (bShl 1 (itO 116 (g b))))), some (vI (itO 116 (g q)))]) hO dX12_items_137 rfl (Nat.le_of_ble_eq_true rfl) rfl rfl ?_
                    refine aw_goto (tgt := 41) hO dX12_items_139 rfl ?_
                    exact ih q (bOr s (bShl 1 (itO 116 (g b)))) (fu r (itO 116 (g b)).toNat v2) μ8 (by have := hse.1.resolve_left c62; omega) (hse.1.resolve_left c62).2.1 (hse.1.resolve_left c62).2.2 z3 (by rw [ev, ← pIt_g (fun h => h.elim c52 c62) hx]; exact e0) hf_μ8 hp_μ8 hw_μ8 hr2
              · refine aw_iconst hO dX12_items_102 rfl ?_
                refine aw_goto (tgt := 107) hO dX12_items_103 rfl ?_
                refine aw_iload_n hO dX12_items_107 rfl rfl ?_
                refine aw_iload hO dX12_items_108 rfl rfl ?_
                refine aw_callSI (as := [vI 116, vI (itO 116 (g b))]) (st := [vI 1, vR 0, vI ((((3 * i) : Nat) : Int) + (itO 116 (g b))), vR 13]) hO dX12_items_110 rfl (lw_t6 158 rfl rfl) kX12_highest (ctM_highest_116 μ1 (v := (itO 116 (g b))) ⟨by omega, by omega⟩) (by decide) rfl rfl rfl (Nat.le_of_ble_eq_true rfl) ?_
                have hlo : 1 = loO 116 (itO 116 (g b)) := by unfold loO; rw [if_pos ⟨rfl, by omega⟩]
                have hlr := loO_rng 116 (itO 116 (g b))
                have hhr := hiO_rng 116 (itO 116 (g b))
                refine aw_stq (st' := [vI (hiO 116 (itO 116 (g b))), vI (loO 116 (itO 116 (g b))), vR 0, vI ((((3 * i) : Nat) : Int) + (itO 116 (g b))), vR 13]) (by rw [← hlo]) ?_
                refine aw_callVE (as := [vI (loO 116 (itO 116 (g b))), vI (hiO 116 (itO 116 (g b)))]) (st := [vI ((((3 * i) : Nat) : Int) + (itO 116 (g b))), vR 13]) hO dX12_items_113 rfl (lw_t6 161 rfl rfl) kX12_number (T := TX12) rfl (by decide) rfl (ctM_number μ1 (lo := (loO 116 (itO 116 (g b)))) (hi := (hiO 116 (itO 116 (g b)))) hp_μ1 (by omega) (by omega) (by omega) (by omega)) (by decide) rfl rfl rfl (Nat.le_of_ble_eq_true rfl) (fun v10 μ11 hq12 => ?_)
                obtain ⟨hf0_μ11, hv_v10, hb0_μ11, hg0_μ11⟩ := hq12
                have hf_μ11 : Fr (sI 13 (3 * i) 3) μ μ11 := hf_μ1.tr (hf0_μ11.mono fun _ _ => sE_I)
                have hw_μ11 : ∀ j, j < 3 → μ11.1 13 ((3 * i) + j) = r j := fun j hj => (hf0_μ11.1 13 _ (by unfold sE; omega)).trans (hw_μ1 j hj)
                rcases hx : pNb g (loO 116 (itO 116 (g b))) (hiO 116 (itO 116 (g b))) (sk g (b + 1)) with ⟨q, _ | x⟩
                · have hb_μ11 := hb0_μ11 q hx
                  have hqN := hb_μ11.2.2
                  refine aw_iastn (N := 15) (i := ((3 * i) + (itO 116 (g b)).toNat)) hO dX12_items_116 rfl (by decide) rfl (by decide) (by omega) (by omega) ?_
                  refine aw_mm (fun μ13 e_μ13 => ?_)
                  have hf_μ13 : Fr (sI 13 (3 * i) 3) μ μ13 := by rw [e_μ13]; exact hf_μ11.st (Or.inr ⟨rfl, by omega, by omega⟩) _
                  have hw_μ13 : ∀ j, j < 3 → μ13.1 13 ((3 * i) + j) = fu r (itO 116 (g b)).toNat v10 j := fun j hj => by
                    by_cases ej : j = (itO 116 (g b)).toNat
                    · rw [ej, fu_eq, e_μ13, mst_eq]
                    · rw [fu_ne ej, e_μ13, mst_ni (by omega)]; exact hw_μ11 j hj
                  have hr2 : ∀ j, j < 4 → 0 ≤ fu r (itO 116 (g b)).toNat v10 j ∧ fu r (itO 116 (g b)).toNat v10 j ≤ 99 := fun j hj => by
                    by_cases ej : j = (itO 116 (g b)).toNat
                    · rw [ej, fu_eq]; exact hv_v10
                    · rw [fu_ne ej]; exact hr j hj
                  have hb_μ13 := hb_μ11.off e_μ13 (by decide)
                  refine aw_aload_n hO dX12_items_117 rfl rfl ?_
                  refine gM_wrong hO dX12_items_118 rfl ?_
                  refine aw_cg hb_μ13.2.1 ?_
                  refine aw_iconst hO dX12_items_121 rfl ?_
                  refine aw_icmp_ne (tgt := 136) hO dX12_items_122 rfl rfl (inRn (by omega)) (inRlit _) (fun c122 => ?_) (fun c122 => ?_)
                  · refine aw_iconst hO dX12_items_136 rfl ?_
                    refine aw_istore (ls' := [some (vR 0), some (vI 116), some (vR 13), some (vI (((3 * i) : Nat) : Int)), some (vI 3), some (vI (bOr s (bShl 1 (itO 116 (g b))))), some (vI (-1))]) hO dX12_items_137 rfl (Nat.le_of_ble_eq_true rfl) rfl rfl ?_
                    refine aw_goto (tgt := 41) hO dX12_items_139 rfl ?_
                    refine aw_aload_n hO dX12_items_41 rfl rfl ?_
                    refine gM_wrong hO dX12_items_42 rfl ?_
                    refine aw_cg hb_μ13.2.1 ?_
                    refine aw_iconst hO dX12_items_45 rfl ?_
                    refine aw_icmp_ne (tgt := 142) hO dX12_items_46 rfl rfl (inRn (by omega)) (inRlit _) (fun c46 => ?_) (fun c46 => ?_)
                    · refine aw_vret hO dX12_items_142 ?_
                      exact ⟨rfl, hf_μ13, ItO_b (hX.symm.trans (e0.symm.trans (pIt_b (fun h => h.elim c52 c62) hx))) (fun j hj => by rw [hw_μ13 j hj]; exact hr2 j (by omega)) hb_μ13⟩
                    · exact absurd c46 (by omega)
                  · exact absurd c122 (by omega)
                · obtain ⟨e_v10, b2, hs2, hp_μ11⟩ := hg0_μ11 q x hx
                  have ev := e_v10
                  obtain ⟨z1, z2, z3, z4, z5⟩ := (pNb_G hG (sk_le hG (by omega))).2 q x hx
                  refine aw_iastn (N := 15) (i := ((3 * i) + (itO 116 (g b)).toNat)) hO dX12_items_116 rfl (by decide) rfl (by decide) (by omega) (by omega) ?_
                  refine aw_mm (fun μ14 e_μ14 => ?_)
                  have hf_μ14 : Fr (sI 13 (3 * i) 3) μ μ14 := by rw [e_μ14]; exact hf_μ11.st (Or.inr ⟨rfl, by omega, by omega⟩) _
                  have hw_μ14 : ∀ j, j < 3 → μ14.1 13 ((3 * i) + j) = fu r (itO 116 (g b)).toNat v10 j := fun j hj => by
                    by_cases ej : j = (itO 116 (g b)).toNat
                    · rw [ej, fu_eq, e_μ14, mst_eq]
                    · rw [fu_ne ej, e_μ14, mst_ni (by omega)]; exact hw_μ11 j hj
                  have hr2 : ∀ j, j < 4 → 0 ≤ fu r (itO 116 (g b)).toNat v10 j ∧ fu r (itO 116 (g b)).toNat v10 j ≤ 99 := fun j hj => by
                    by_cases ej : j = (itO 116 (g b)).toNat
                    · rw [ej, fu_eq]; exact hv_v10
                    · rw [fu_ne ej]; exact hr j hj
                  have hp_μ14 := hp_μ11.off e_μ14 (by decide)
                  refine aw_aload_n hO dX12_items_117 rfl rfl ?_
                  refine gM_wrong hO dX12_items_118 rfl ?_
                  refine aw_cg hp_μ14.wr ?_
                  refine aw_iconst hO dX12_items_121 rfl ?_
                  refine aw_icmp_ne (tgt := 136) hO dX12_items_122 rfl rfl (inRlit _) (inRlit _) (fun c122 => ?_) (fun c122 => ?_)
                  · exact absurd c122 (by omega)
                  · refine aw_iload_n hO dX12_items_125 rfl rfl ?_
                    refine aw_aload_n hO dX12_items_126 rfl rfl ?_
                    refine aw_callVE (as := []) (st := [vI 116]) hO dX12_items_127 rfl (lw_t6 140 rfl rfl) kX12_look (T := TX12) rfl (by decide) rfl (ctM_look μ14 hp_μ14.1 hp_μ14.at hp_μ14.le) (by decide) rfl rfl rfl (Nat.le_of_ble_eq_true rfl) (fun v15 μ16 hq17 => ?_)
                    obtain ⟨e_v15, e_μ16⟩ := hq17
                    subst e_v15
                    have hp_μ16 := hp_μ14.to (sk_le hp_μ14.G hp_μ14.le) e_μ16
                    have hf_μ16 : Fr (sI 13 (3 * i) 3) μ μ16 := by rw [e_μ16]; exact hf_μ14.st (Or.inl ⟨rfl, Or.inl rfl⟩) _
                    have hr_μ16 := hp_μ14.G.rng (sk g b2)
                    have hw_μ16 : ∀ j, j < 3 → μ16.1 13 ((3 * i) + j) = fu r (itO 116 (g b)).toNat v10 j := fun j hj => by rw [e_μ16, mst_nk (by decide)]; exact hw_μ14 j hj
                    rw [hs2] at hp_μ16 hr_μ16 ⊢
                    refine aw_callSI (as := [vI 116, vI (g q)]) (st := []) hO dX12_items_130 rfl (lw_t6 152 rfl rfl) kX12_itemOf (ctM_itemOf_116 μ16 (v := (g q)) ⟨by omega, by omega⟩) (by decide) rfl rfl rfl (Nat.le_of_ble_eq_true rfl) ?_
                    refine aw_goto (tgt := 137) hO dX12_items_133 rfl ?_
                    refine aw_istore (ls' := [some (vR 0), some (vI 116), some (vR 13), some (vI (((3 * i) : Nat) : Int)), some (vI 3), some (vI (bOr s (bShl 1 (itO 116 (g b))))), some (vI (itO 116 (g q)))]) hO dX12_items_137 rfl (Nat.le_of_ble_eq_true rfl) rfl rfl ?_
                    refine aw_goto (tgt := 41) hO dX12_items_139 rfl ?_
                    exact ih q (bOr s (bShl 1 (itO 116 (g b)))) (fu r (itO 116 (g b)).toNat v10) μ16 (by have := hse.1.resolve_left c62; omega) (hse.1.resolve_left c62).2.1 (hse.1.resolve_left c62).2.2 z3 (by rw [ev, ← pIt_g (fun h => h.elim c52 c62) hx]; exact e0) hf_μ16 hp_μ16 hw_μ16 hr2
  have lp1 : ∀ (c k : Nat) (m : Mm), k + c = 3 → Fr (sI 13 (3 * i) 3) μ m → PQ g N τ m a → (∀ j, j < k → m.1 13 ((3 * i) + j) = usR 116 j) → AW K 3 [some (vR 0), some (vI 116), some (vR 13), some (vI (((3 * i) : Nat) : Int)), some (vI 3), some (vI ((k : Nat) : Int)), none] [] m := by
    intro c
    induction c with
    | zero =>
      intro k m hk hf hm hw
      have hk4 : k = 3 := by omega
      subst hk4
      refine aw_iload hO dX12_items_3 rfl rfl ?_
      refine aw_iload hO dX12_items_5 rfl rfl ?_
      refine aw_icmp_ge (tgt := 28) hO dX12_items_7 rfl rfl (inRn (by omega)) (inRlit _) (fun c7 => ?_) (fun c7 => ?_)
      · refine aw_iconst hO dX12_items_28 rfl ?_
        refine aw_istore (ls' := [some (vR 0), some (vI 116), some (vR 13), some (vI (((3 * i) : Nat) : Int)), some (vI 3), some (vI 0), none]) hO dX12_items_29 rfl (Nat.le_of_ble_eq_true rfl) rfl rfl ?_
        refine aw_iload_n hO dX12_items_31 rfl rfl ?_
        refine aw_aload_n hO dX12_items_32 rfl rfl ?_
        refine aw_callVE (as := []) (st := [vI 116]) hO dX12_items_33 rfl (lw_t6 140 rfl rfl) kX12_look (T := TX12) rfl (by decide) rfl (ctM_look m hm.1 hm.at hm.le) (by decide) rfl rfl rfl (Nat.le_of_ble_eq_true rfl) (fun v18 μ19 hq20 => ?_)
        obtain ⟨e_v18, e_μ19⟩ := hq20
        subst e_v18
        have hp_μ19 := hm.to (sk_le hm.G hm.le) e_μ19
        have hf_μ19 : Fr (sI 13 (3 * i) 3) μ μ19 := by rw [e_μ19]; exact hf.st (Or.inl ⟨rfl, Or.inl rfl⟩) _
        have hr_μ19 := hm.G.rng (sk g a)
        have hw_μ19 : ∀ j, j < 3 → μ19.1 13 ((3 * i) + j) = usR 116 j := fun j hj => by rw [e_μ19, mst_nk (by decide)]; exact hw j hj
        refine aw_callSI (as := [vI 116, vI (g (sk g a))]) (st := []) hO dX12_items_36 rfl (lw_t6 152 rfl rfl) kX12_itemOf (ctM_itemOf_116 μ19 (v := (g (sk g a))) ⟨by omega, by omega⟩) (by decide) rfl rfl rfl (Nat.le_of_ble_eq_true rfl) ?_
        refine aw_istore (ls' := [some (vR 0), some (vI 116), some (vR 13), some (vI (((3 * i) : Nat) : Int)), some (vI 3), some (vI 0), some (vI (itO 116 (g (sk g a))))]) hO dX12_items_39 rfl (Nat.le_of_ble_eq_true rfl) rfl rfl ?_
        exact lp2 4 (sk g a) 0 (usR 116) μ19 (by decide) (by decide) (by decide) (sk_sk hG _) hX.symm hf_μ19 hp_μ19 hw_μ19 (fun j hj => by have := usO_rng 116 (j : Int); unfold usR; omega)
      · exact absurd c7 (by omega)
    | succ c ih =>
      intro k m hk hf hm hw
      refine aw_iload hO dX12_items_3 rfl rfl ?_
      refine aw_iload hO dX12_items_5 rfl rfl ?_
      refine aw_icmp_ge (tgt := 28) hO dX12_items_7 rfl rfl (inRn (by omega)) (inRlit _) (fun c7 => ?_) (fun c7 => ?_)
      · exact absurd c7 (by omega)
      · refine aw_aload_n hO dX12_items_10 rfl rfl ?_
        refine aw_iload_n hO dX12_items_11 rfl rfl ?_
        refine aw_iload hO dX12_items_12 rfl rfl ?_
        refine aw_iadd hO dX12_items_14 rfl ?_
        refine aw_iload_n hO dX12_items_15 rfl rfl ?_
        refine aw_iload hO dX12_items_16 rfl rfl ?_
        refine aw_callSI (as := [vI 116, vI ((k : Nat) : Int)]) (st := [vI ((((3 * i) : Nat) : Int) + ((k : Nat) : Int)), vR 13]) hO dX12_items_18 rfl (lw_t6 137 rfl rfl) kX12_usual (ctM_usual_116 m (v := ((k : Nat) : Int)) (inRn (by omega))) (by decide) rfl rfl rfl (Nat.le_of_ble_eq_true rfl) ?_
        refine aw_iastn (N := 15) (i := ((3 * i) + k)) hO dX12_items_21 rfl (by decide) rfl (by decide) (by omega) (by omega) ?_
        refine aw_mm (fun μ21 e_μ21 => ?_)
        have hf_μ21 : Fr (sI 13 (3 * i) 3) μ μ21 := by rw [e_μ21]; exact hf.st (Or.inr ⟨rfl, by omega, by omega⟩) _
        have hp_μ21 := hm.off e_μ21 (by decide)
        have hw_μ21 : ∀ j, j < k + 1 → μ21.1 13 ((3 * i) + j) = usR 116 j := fun j hj => by
          by_cases ej : j = k
          · rw [ej, e_μ21, mst_eq]; rfl
          · rw [e_μ21, mst_ni (by omega)]; exact hw j (by omega)
        refine aw_iinc (ls' := [some (vR 0), some (vI 116), some (vR 13), some (vI (((3 * i) : Nat) : Int)), some (vI 3), some (vI (((k : Nat) : Int) + 1)), none]) hO dX12_items_22 rfl rfl rfl rfl ?_
        refine aw_lsq (ls' := [some (vR 0), some (vI 116), some (vR 13), some (vI (((3 * i) : Nat) : Int)), some (vI 3), some (vI (((k + 1) : Nat) : Int)), none]) rfl ?_
        refine aw_goto (tgt := 3) hO dX12_items_25 rfl ?_
        exact ih (k + 1) μ21 (by omega) hf_μ21 hp_μ21 hw_μ21
  refine aw_iconst hO dX12_items_0 rfl ?_
  refine aw_istore (ls' := [some (vR 0), some (vI 116), some (vR 13), some (vI (((3 * i) : Nat) : Int)), some (vI 3), some (vI 0), none]) hO dX12_items_1 rfl (Nat.le_of_ble_eq_true rfl) rfl rfl ?_
  refine aw_lsq (ls' := [some (vR 0), some (vI 116), some (vR 13), some (vI (((3 * i) : Nat) : Int)), some (vI 3), some (vI ((0 : Nat) : Int)), none]) rfl ?_
  exact lp1 3 0 μ rfl Fr.rf h (fun j hj => absurd hj (Nat.not_lt_zero _))
