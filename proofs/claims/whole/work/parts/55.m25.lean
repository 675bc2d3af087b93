
/-! ## sums, as the reference reads them -/
section
variable {g : Nat → Int} {r p q : Nat} {S : Nat → PR}
theorem pAt_db (h : isD (g p)) (e : pDg g 4 p 0 = (q, none)) : pAt g r S p = (q, none) := by unfold pAt; rw [if_pos h]; simp only [e]
theorem pAt_dg {v : Int} (h : isD (g p)) (e : pDg g 4 p 0 = (q, some v)) : pAt g r S p = (sk g q, some [(0, v)]) := by unfold pAt; rw [if_pos h]; simp only [e]
theorem pAt_l (h : ¬ isD (g p)) (h2 : letV (g p) ≠ -1) : pAt g r S p = (sk g (p + 1), some [(1, letV (g p))]) := by unfold pAt; rw [if_neg h, if_pos h2]
theorem pAt_o0 (h : ¬ isD (g p)) (h2 : letV (g p) = -1) (h3 : g p = 91) (h4 : r = 0) : pAt g r S p = (p, none) := by unfold pAt; rw [if_neg h, if_neg (fun e => e h2), if_pos h3, if_pos h4]
theorem pAt_o (h : ¬ isD (g p)) (h2 : letV (g p) = -1) (h3 : g p = 91) (h4 : r ≠ 0) : pAt g r S p = shut g 93 (S (sk g (p + 1))) := by unfold pAt; rw [if_neg h, if_neg (fun e => e h2), if_pos h3, if_neg h4]
theorem pAt_e (h : ¬ isD (g p)) (h2 : letV (g p) = -1) (h3 : g p ≠ 91) : pAt g r S p = (p, none) := by unfold pAt; rw [if_neg h, if_neg (fun e => e h2), if_neg h3]
end
/-- a part of reading without an answer -/
def CP (D : Nat) (y : MethodName) (cc : ByteArray) (nL dp B : Nat) (R : (Nat → Int) → Nat → PR) : Prop := ∀ (g : Nat → Int) (N τ a : Nat) (L : List Tok) (m : Mm), PS g N τ m a dp L → L.length ≤ sk g a → CtV PM D y cc nL none [vR 0] m (fun m2 => Fr (sS τ) m m2 ∧ PO g N τ dp L B (R g (sk g a)) m2)
def GG (R : (Nat → Int) → Nat → PR) : Prop := ∀ g N, Gok g N → ∃ W, PGd g N W (R g)
theorem Bd.k {g : Nat → Int} {N τ q B : Nat} {m : Mm} (h : Bd g N τ m q B) (hB : B < 520) : ∃ k : Nat, m.1 4 τ = (k : Int) ∧ k < 520 := ⟨(m.1 4 τ).toNat, (Int.toNat_of_nonneg h.2.2.1).symm, by have := h.2.2.2; have := h.2.2.1; omega⟩
theorem dX12_atom_0 : decode cX12_atom 0 = .ok (.aload_n 0, 1) := by decide +kernel
theorem dX12_atom_1 : decode cX12_atom 1 = .ok (.invokevirtual 119, 3) := by decide +kernel
theorem dX12_atom_4 : decode cX12_atom 4 = .ok (.istore_n 1, 1) := by decide +kernel
theorem dX12_atom_5 : decode cX12_atom 5 = .ok (.iload_n 1, 1) := by decide +kernel
theorem dX12_atom_6 : decode cX12_atom 6 = .ok (.invokestatic 122, 3) := by decide +kernel
theorem dX12_atom_9 : decode cX12_atom 9 = .ok (.ifCond .eq 15, 3) := by decide +kernel
theorem dX12_atom_12 : decode cX12_atom 12 = .ok (.aload_n 0, 1) := by decide +kernel
theorem dX12_atom_13 : decode cX12_atom 13 = .ok (.iconst 0, 1) := by decide +kernel
theorem dX12_atom_14 : decode cX12_atom 14 = .ok (.aload_n 0, 1) := by decide +kernel
theorem dX12_atom_15 : decode cX12_atom 15 = .ok (.invokevirtual 126, 3) := by decide +kernel
theorem dX12_atom_18 : decode cX12_atom 18 = .ok (.invokevirtual 129, 3) := by decide +kernel
theorem dX12_atom_21 : decode cX12_atom 21 = .ok (.goto 68, 3) := by decide +kernel
theorem dX12_atom_24 : decode cX12_atom 24 = .ok (.iload_n 1, 1) := by decide +kernel
theorem dX12_atom_25 : decode cX12_atom 25 = .ok (.invokestatic 133, 3) := by decide +kernel
theorem dX12_atom_28 : decode cX12_atom 28 = .ok (.iconst (-1), 1) := by decide +kernel
theorem dX12_atom_29 : decode cX12_atom 29 = .ok (.if_icmp .eq 25, 3) := by decide +kernel
theorem dX12_atom_32 : decode cX12_atom 32 = .ok (.aload_n 0, 1) := by decide +kernel
theorem dX12_atom_33 : decode cX12_atom 33 = .ok (.dup, 1) := by decide +kernel
theorem dX12_atom_34 : decode cX12_atom 34 = .ok (.getfield 100, 3) := by decide +kernel
theorem dX12_atom_37 : decode cX12_atom 37 = .ok (.iconst 1, 1) := by decide +kernel
theorem dX12_atom_38 : decode cX12_atom 38 = .ok (.iadd, 1) := by decide +kernel
theorem dX12_atom_39 : decode cX12_atom 39 = .ok (.putfield 100, 3) := by decide +kernel
theorem dX12_atom_42 : decode cX12_atom 42 = .ok (.aload_n 0, 1) := by decide +kernel
theorem dX12_atom_43 : decode cX12_atom 43 = .ok (.iconst 1, 1) := by decide +kernel
theorem dX12_atom_44 : decode cX12_atom 44 = .ok (.iload_n 1, 1) := by decide +kernel
theorem dX12_atom_45 : decode cX12_atom 45 = .ok (.invokestatic 133, 3) := by decide +kernel
theorem dX12_atom_48 : decode cX12_atom 48 = .ok (.invokevirtual 129, 3) := by decide +kernel
theorem dX12_atom_51 : decode cX12_atom 51 = .ok (.goto 38, 3) := by decide +kernel
theorem dX12_atom_54 : decode cX12_atom 54 = .ok (.iload_n 1, 1) := by decide +kernel
theorem dX12_atom_55 : decode cX12_atom 55 = .ok (.bipush 91, 2) := by decide +kernel
theorem dX12_atom_57 : decode cX12_atom 57 = .ok (.if_icmp .ne 28, 3) := by decide +kernel
theorem dX12_atom_60 : decode cX12_atom 60 = .ok (.aload_n 0, 1) := by decide +kernel
theorem dX12_atom_61 : decode cX12_atom 61 = .ok (.invokevirtual 137, 3) := by decide +kernel
theorem dX12_atom_64 : decode cX12_atom 64 = .ok (.aload_n 0, 1) := by decide +kernel
theorem dX12_atom_65 : decode cX12_atom 65 = .ok (.getfield 107, 3) := by decide +kernel
theorem dX12_atom_68 : decode cX12_atom 68 = .ok (.iconst (-1), 1) := by decide +kernel
theorem dX12_atom_69 : decode cX12_atom 69 = .ok (.if_icmp .ne 20, 3) := by decide +kernel
theorem dX12_atom_72 : decode cX12_atom 72 = .ok (.aload_n 0, 1) := by decide +kernel
theorem dX12_atom_73 : decode cX12_atom 73 = .ok (.invokevirtual 140, 3) := by decide +kernel
theorem dX12_atom_76 : decode cX12_atom 76 = .ok (.aload_n 0, 1) := by decide +kernel
theorem dX12_atom_77 : decode cX12_atom 77 = .ok (.bipush 93, 2) := by decide +kernel
theorem dX12_atom_79 : decode cX12_atom 79 = .ok (.invokevirtual 143, 3) := by decide +kernel
theorem dX12_atom_82 : decode cX12_atom 82 = .ok (.goto 7, 3) := by decide +kernel
theorem dX12_atom_85 : decode cX12_atom 85 = .ok (.aload_n 0, 1) := by decide +kernel
theorem dX12_atom_86 : decode cX12_atom 86 = .ok (.invokevirtual 116, 3) := by decide +kernel
theorem dX12_atom_89 : decode cX12_atom 89 = .ok (.return_, 1) := by decide +kernel
set_option maxHeartbeats 4000000 in
set_option maxRecDepth 100000 in
theorem ctM_atom0 {r d D B B' : Nat} {S : (Nat → Int) → Nat → PR} (hr : d + r = 6) (hD : 3 ≤ D) (hB : 241 ≤ B) (hBB : B' ≤ B) (hB5 : B < 500) (hS : r ≠ 0 → CP (D - 1) yX12_sum cX12_sum 2 (d + 1) B' S ∧ GG S) : CP D yX12_atom cX12_atom 2 d B (fun g => pAt g r (S g)) := by
  intro g N τ a L μ h hL
  refine ct_intro [some (vR 0), none] RX12 (by decide) rfl XM rfl (Nat.le_of_ble_eq_true rfl) (fun K hO => ?_)
  have hN := h.1.1.1
  have hG := h.G
  obtain ⟨WW, hGG⟩ := id (show r ≠ 0 → ∃ W, PGd g N W (S g) from fun e => (hS e).2 g N hG) |> fun f => (Classical.em (r = 0)).elim (fun e => (⟨fun _ => True, fun k => absurd e k⟩ : ∃ W, r ≠ 0 → PGd g N W (S g))) (fun e => (f e).elim (fun W hW => ⟨W, fun _ => hW⟩))
  have hpN := sk_le hG h.le
  refine aw_aload_n hO dX12_atom_0 rfl rfl ?_
  refine aw_callVE (as := []) (st := []) hO dX12_atom_1 rfl (lw_t6 140 rfl rfl) kX12_look (T := TX12) rfl (by decide) rfl (ctM_look μ h.1 h.at h.le) (by omega) rfl rfl rfl (Nat.le_of_ble_eq_true rfl) (fun v1 μ2 hq3 => ?_)
  obtain ⟨e_v1, e_μ2⟩ := hq3
  subst e_v1
  have hp_μ2 := h.look
  rw [← e_μ2] at hp_μ2
  have hf_μ2 : Fr (sS τ) μ μ2 := by rw [e_μ2]; exact Fr.rf.st sS_at _
  have hr_μ2 := h.G.rng (sk g a)
  refine aw_istore_n (ls' := [some (vR 0), some (vI (g (sk g a)))]) hO dX12_atom_4 rfl (Nat.le_of_ble_eq_true rfl) rfl rfl ?_
  refine aw_iload_n hO dX12_atom_5 rfl rfl ?_
  refine aw_callSI (as := [vI (g (sk g a))]) (st := []) hO dX12_atom_6 rfl (lw_t6 165 rfl rfl) kX12_isDigit (ctM_isDigit μ2 (v := g (sk g a)) ⟨by omega, by omega⟩) (by omega) rfl rfl rfl (Nat.le_of_ble_eq_true rfl) ?_
  refine aw_ifz_eq (tgt := 24) hO dX12_atom_9 rfl rfl (fun c9 => ?_) (fun c9 => ?_)
  · refine aw_iload_n hO dX12_atom_24 rfl rfl ?_
    refine aw_callSI (as := [vI (g (sk g a))]) (st := []) hO dX12_atom_25 rfl (lw_t6 223 rfl rfl) kX12_letterOf (ctM_letterOf μ2 (v := g (sk g a)) ⟨by omega, by omega⟩) (by omega) rfl rfl rfl (Nat.le_of_ble_eq_true rfl) ?_
    refine aw_iconst hO dX12_atom_28 rfl ?_
    refine aw_icmp_eq (tgt := 54) hO dX12_atom_29 rfl rfl ⟨by have := letV_rng (g (sk g a)); omega, by have := letV_rng (g (sk g a)); omega⟩ (inRlit _) (fun c29 => ?_) (fun c29 => ?_)
    · refine aw_iload_n hO dX12_atom_54 rfl rfl ?_
      refine aw_bipush hO dX12_atom_55 rfl (by decide) (by decide) ?_
      refine aw_icmp_ne (tgt := 85) hO dX12_atom_57 rfl rfl ⟨by omega, by omega⟩ (inRlit _) (fun c57 => ?_) (fun c57 => ?_)
      · refine aw_aload_n hO dX12_atom_85 rfl rfl ?_
        refine aw_callVV (as := []) (st := []) hO dX12_atom_86 rfl (lw_t6 168 rfl rfl) kX12_bad (T := TX12) rfl (by decide) rfl (ctM_bad μ2 hp_μ2.at hp_μ2.wr) (by omega) rfl rfl rfl (Nat.le_of_ble_eq_true rfl) (fun μ5 hq6 => ?_)
        have hb_μ5 := hp_μ2.bad (B := B) (by omega)
        rw [← hq6] at hb_μ5
        have hf_μ5 : Fr (sS τ) μ μ5 := by rw [hq6]; exact hf_μ2.st sS_wr _
        refine aw_vret hO dX12_atom_89 ?_
        exact ⟨rfl, hf_μ5, (PO_b (pAt_e c9 c29 c57)).mpr (hb_μ5.mono (by omega))⟩
      · refine aw_aload_n hO dX12_atom_60 rfl rfl ?_
        have hlt := hG.lt (p := sk g a) (by omega)
        rcases Nat.eq_zero_or_pos r with hr0 | hr0
        · refine aw_callVV (as := []) (st := []) hO dX12_atom_61 rfl (lw_t6 195 rfl rfl) kX12_opens (T := TX12) rfl (by decide) rfl (ctM_opensB μ2 (B := 240) hp_μ2 (by omega) (by omega)) (by omega) rfl rfl rfl (Nat.le_of_ble_eq_true rfl) (fun μ8 hq9 => ?_)
          obtain ⟨hf0_μ8, ho_μ8⟩ := hq9
          have hf_μ8 : Fr (sS τ) μ μ8 := hf_μ2.tr hf0_μ8
          refine aw_aload_n hO dX12_atom_64 rfl rfl ?_
          refine gM_wrong hO dX12_atom_65 rfl ?_
          refine aw_cg ho_μ8.2.1.1 ?_
          refine aw_iconst hO dX12_atom_68 rfl ?_
          refine aw_icmp_ne (tgt := 89) hO dX12_atom_69 rfl rfl (inRn (by omega)) (inRlit _) (fun c69 => ?_) (fun c69 => ?_)
          · refine aw_vret hO dX12_atom_89 ?_
            exact ⟨rfl, hf_μ8, (PO_b (pAt_o0 c9 c29 c57 hr0)).mpr (ho_μ8.mono (by omega))⟩
          · exact absurd c69 (by omega)
        · refine aw_callVV (as := []) (st := []) hO dX12_atom_61 rfl (lw_t6 195 rfl rfl) kX12_opens (T := TX12) rfl (by decide) rfl (ctM_opens μ2 hp_μ2 (by omega) hlt) (by omega) rfl rfl rfl (Nat.le_of_ble_eq_true rfl) (fun μ11 hq12 => ?_)
          obtain ⟨hf0_μ11, ho_μ11⟩ := hq12
          have hf_μ11 : Fr (sS τ) μ μ11 := hf_μ2.tr hf0_μ11
          refine aw_aload_n hO dX12_atom_64 rfl rfl ?_
          refine gM_wrong hO dX12_atom_65 rfl ?_
          refine aw_cg ho_μ11.wr ?_
          refine aw_iconst hO dX12_atom_68 rfl ?_
          refine aw_icmp_ne (tgt := 89) hO dX12_atom_69 rfl rfl (inRlit _) (inRlit _) (fun c69 => ?_) (fun c69 => ?_)
          · exact absurd c69 (by omega)
          · refine aw_aload_n hO dX12_atom_72 rfl rfl ?_
            refine aw_callVV (as := []) (st := []) hO dX12_atom_73 rfl (lw_t6 207 rfl rfl) kX12_sum (T := TX12) rfl (by decide) rfl ((hS (by omega)).1 g N τ (sk g a + 1) L μ11 ho_μ11 (by have := sk_ge g (sk g a + 1); omega)) (by omega) rfl rfl rfl (Nat.le_of_ble_eq_true rfl) (fun μ14 hq15 => ?_)
            obtain ⟨hf0_μ14, ho_μ14⟩ := hq15
            have hf_μ14 : Fr (sS τ) μ μ14 := hf_μ11.tr hf0_μ14
            rcases hx14 : S g (sk g (sk g a + 1)) with ⟨q14, _ | t14⟩
            · have hb_μ14 := (PO_b hx14).mp ho_μ14
              have hqN14 := hb_μ14.2.1.2
              refine aw_aload_n hO dX12_atom_76 rfl rfl ?_
              refine aw_bipush hO dX12_atom_77 rfl (by decide) (by decide) ?_
              refine aw_callVV (as := [vI 93]) (st := []) hO dX12_atom_79 rfl (lw_t6 203 rfl rfl) kX12_closes (T := TX12) rfl (by decide) rfl (ctM_closesB μ14 (c := 93) hb_μ14) (by omega) rfl rfl rfl (Nat.le_of_ble_eq_true rfl) (fun μ17 hq18 => ?_)
              obtain ⟨hf0_μ17, hb_μ17⟩ := hq18
              have hf_μ17 : Fr (sS τ) μ μ17 := hf_μ14.tr hf0_μ17
              refine aw_goto (tgt := 89) hO dX12_atom_82 rfl ?_
              refine aw_vret hO dX12_atom_89 ?_
              exact ⟨rfl, hf_μ17, (PO_b ((pAt_o c9 c29 c57 (by omega)).trans (by rw [hx14]; rfl))).mpr (hb_μ17.mono (by omega))⟩
            · obtain ⟨b14, hs14, hp_μ14⟩ := (PO_g hx14).mp ho_μ14
              have hle14 := hp_μ14.le
              obtain ⟨u1, u2, u3, u4, u5⟩ := (hGG (by omega) (sk g (sk g a + 1)) (sk_le hG (by omega))).2 q14 t14 hx14
              have hsg := sk_ge g (sk g a + 1)
              have hlen : (L ++ t14).length ≤ 240 := by rw [List.length_append]; omega
              refine aw_aload_n hO dX12_atom_76 rfl rfl ?_
              refine aw_bipush hO dX12_atom_77 rfl (by decide) (by decide) ?_
              refine aw_callVV (as := [vI 93]) (st := []) hO dX12_atom_79 rfl (lw_t6 203 rfl rfl) kX12_closes (T := TX12) rfl (by decide) rfl (ctM_closes μ14 (B := 240) (c := 93) hp_μ14 (inRlit _) (by decide) hlen) (by omega) rfl rfl rfl (Nat.le_of_ble_eq_true rfl) (fun μ20 hq21 => ?_)
              obtain ⟨hf0_μ20, hg_μ20, hb_μ20⟩ := hq21
              have hf_μ20 : Fr (sS τ) μ μ20 := hf_μ14.tr hf0_μ20
              rw [hs14] at hg_μ20 hb_μ20
              by_cases e93 : g q14 = 93
              · have hp_μ20 := hg_μ20 e93
                refine aw_goto (tgt := 89) hO dX12_atom_82 rfl ?_
                refine aw_vret hO dX12_atom_89 ?_
                exact ⟨rfl, hf_μ20, (PO_g ((pAt_o c9 c29 c57 (by omega)).trans (by rw [hx14, shut_g e93]))).mpr ⟨_, rfl, hp_μ20⟩⟩
              · have hb2_μ20 := hb_μ20 e93
                refine aw_goto (tgt := 89) hO dX12_atom_82 rfl ?_
                refine aw_vret hO dX12_atom_89 ?_
                exact ⟨rfl, hf_μ20, (PO_b ((pAt_o c9 c29 c57 (by omega)).trans (by rw [hx14, shut_n e93]))).mpr (hb2_μ20.mono (by omega))⟩
    · have hlt := hG.lt (letV_e c29)
      refine aw_aload_n hO dX12_atom_32 rfl rfl ?_
      refine aw_dup hO dX12_atom_33 rfl rfl ?_
      refine gM_at hO dX12_atom_34 rfl ?_
      refine aw_cg hp_μ2.at ?_
      refine aw_iconst hO dX12_atom_37 rfl ?_
      refine aw_iadd hO dX12_atom_38 rfl ?_
      refine pM_at hO dX12_atom_39 rfl ?_
      refine aw_mm (fun μ22 e_μ22 => ?_)
      have hf_μ22 : Fr (sS τ) μ μ22 := by rw [e_μ22]; exact hf_μ2.st sS_at _
      have hp_μ22 := hp_μ2.to (b := ((sk g a) + 1)) (by omega)
      rw [show ((((sk g a) + 1) : Nat) : Int) = (((sk g a) : Nat) : Int) + 1 from rfl, ← e_μ22] at hp_μ22
      refine aw_aload_n hO dX12_atom_42 rfl rfl ?_
      refine aw_iconst hO dX12_atom_43 rfl ?_
      refine aw_iload_n hO dX12_atom_44 rfl rfl ?_
      refine aw_callSI (as := [vI (g (sk g a))]) (st := [vI 1, vR 0]) hO dX12_atom_45 rfl (lw_t6 223 rfl rfl) kX12_letterOf (ctM_letterOf μ22 (v := g (sk g a)) ⟨by omega, by omega⟩) (by omega) rfl rfl rfl (Nat.le_of_ble_eq_true rfl) ?_
      refine aw_callVV (as := [vI 1, vI (letV (g (sk g a)))]) (st := []) hO dX12_atom_48 rfl (lw_t6 199 rfl rfl) kX12_put (T := TX12) rfl (by decide) rfl (ctM_put μ22 hp_μ22.1.2.2.2.1 hp_μ22.1.2.2.2.2 hp_μ22.co (by omega) 1 (letV (g (sk g a)))) (by omega) rfl rfl rfl (Nat.le_of_ble_eq_true rfl) (fun μ24 hq25 => ?_)
      have hp_μ24 := hp_μ22.put (by omega) 1 (letV (g (sk g a)))
      rw [← hq25] at hp_μ24
      have hf_μ24 : Fr (sS τ) μ μ24 := by rw [hq25]; exact Fr_put hf_μ22 (by omega)
      refine aw_goto (tgt := 89) hO dX12_atom_51 rfl ?_
      refine aw_vret hO dX12_atom_89 ?_
      exact ⟨rfl, hf_μ24, (PO_g (pAt_l c9 c29)).mpr ⟨_, rfl, hp_μ24⟩⟩
  · refine aw_aload_n hO dX12_atom_12 rfl rfl ?_
    refine aw_iconst hO dX12_atom_13 rfl ?_
    refine aw_aload_n hO dX12_atom_14 rfl rfl ?_
    refine aw_callVE (as := []) (st := [vI 0, vR 0]) hO dX12_atom_15 rfl (lw_t6 219 rfl rfl) kX12_plainNumber (T := TX12) rfl (by decide) rfl (ctM_plainNumber μ2 (B := 240) hp_μ2 (by omega)) (by omega) rfl rfl rfl (Nat.le_of_ble_eq_true rfl) (fun v26 μ27 hq28 => ?_)
    obtain ⟨hf0_μ27, hob_μ27, hog_μ27⟩ := hq28
    have hf_μ27 : Fr (sS τ) μ μ27 := hf_μ2.tr hf0_μ27
    rcases hx : pDg g 4 (sk g a) 0 with ⟨q, _ | x⟩
    · have hb_μ27 := hob_μ27 q hx
      obtain ⟨k_μ27, hk_μ27, hk2_μ27⟩ := hb_μ27.k (by omega)
      refine aw_callVV (as := [vI 0, vI v26]) (st := []) hO dX12_atom_18 rfl (lw_t6 199 rfl rfl) kX12_put (T := TX12) rfl (by decide) rfl (ctM_put μ27 hb_μ27.1.2.2.2.1 hb_μ27.1.2.2.2.2 hk_μ27 hk2_μ27 0 v26) (by omega) rfl rfl rfl (Nat.le_of_ble_eq_true rfl) (fun μ30 hq31 => ?_)
      have hb_μ30 := hb_μ27.put hk_μ27 hk2_μ27 0 v26
      rw [← hq31] at hb_μ30
      have hf_μ30 : Fr (sS τ) μ μ30 := by rw [hq31]; exact Fr_put hf_μ27 hk2_μ27
      refine aw_goto (tgt := 89) hO dX12_atom_21 rfl ?_
      refine aw_vret hO dX12_atom_89 ?_
      exact ⟨rfl, hf_μ30, (PO_b (pAt_db c9 hx)).mpr (hb_μ30.mono (by omega))⟩
    · obtain ⟨e_v26, hp_μ27⟩ := hog_μ27 q x hx
      rw [e_v26]
      refine aw_callVV (as := [vI 0, vI x]) (st := []) hO dX12_atom_18 rfl (lw_t6 199 rfl rfl) kX12_put (T := TX12) rfl (by decide) rfl (ctM_put μ27 hp_μ27.1.2.2.2.1 hp_μ27.1.2.2.2.2 hp_μ27.co (by omega) 0 x) (by omega) rfl rfl rfl (Nat.le_of_ble_eq_true rfl) (fun μ33 hq34 => ?_)
      have hp_μ33 := hp_μ27.put (by omega) 0 x
      rw [← hq34] at hp_μ33
      have hf_μ33 : Fr (sS τ) μ μ33 := by rw [hq34]; exact Fr_put hf_μ27 (by omega)
      refine aw_goto (tgt := 89) hO dX12_atom_21 rfl ?_
      refine aw_vret hO dX12_atom_89 ?_
      exact ⟨rfl, hf_μ33, (PO_g (pAt_dg c9 hx)).mpr ⟨q, rfl, hp_μ33⟩⟩
