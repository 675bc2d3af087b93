
/-! ## sums, as the reference reads them -/
section
variable {g : Nat → Int} {r p q : Nat} {S : Nat → PR}
theorem pAt_db (h : isD (g p)) (e : pDg g 4 p 0 = (q, none)) : pAt g r S p = (q, none) := by unfold pAt; rw [if_pos h]; simp only [e]
theorem pAt_dg {v : Int} (h : isD (g p)) (e : pDg g 4 p 0 = (q, some v)) : pAt g r S p = (sk g q, some [(0, v)]) := by unfold pAt; rw [if_pos h]; simp only [e]
theorem pAt_l (h : ¬ isD (g p)) (h2 : letV (g p) ≠ -1) : pAt g r S p = (sk g (p + 1), some [(1, letV (g p))]) := by unfold pAt; rw [if_neg h, if_pos h2]
theorem pAt_o0 (h : ¬ isD (g p)) (h2 : letV (g p) = -1) (h3 : g p = 91) (h4 : r = 0) : pAt g r S p = (p, none) := by unfold pAt; rw [if_neg h, if_neg (fun e => e h2), if_pos h3, if_pos h4]
theorem pAt_o (h : ¬ isD (g p)) (h2 : letV (g p) = -1) (h3 : g p = 91) (h4 : r ≠ 0) : pAt g r S p = shut g 93 (S (sk g (p + 1))) := by unfold pAt; rw [if_neg h, if_neg (fun e => e h2), if_pos h3, if_neg h4]
theorem pAt_e (h : ¬ isD (g p)) (h2 : letV (g p) = -1) (h3 : g p ≠ 91) : pAt g r S p = (p, none) := by unfold pAt; rw [if_neg h, if_neg (fun e => e h2), if_neg h3]
end
/-- a part of reading without an answer -/
def CP (D : Nat) (y : MethodName) (cc : ByteArray) (nL dp B : Nat) (R : (Nat → Int) → Nat → PR) : Prop := ∀ (g : Nat → Int) (N τ a : Nat) (L : List Tok) (m : Mm), PS g N τ m a dp L → L.length ≤ sk g a → CtV PM D y cc nL none [vR 0] m (fun m2 => Fr (sS τ) m m2 ∧ PO g N τ dp L B (R g (sk g a)) m2)
def GG (R : (Nat → Int) → Nat → PR) : Prop := ∀ g N, Gok g N → ∃ W, PGd g N W (R g)
theorem Bd.k {g : Nat → Int} {N τ q B : Nat} {m : Mm} (h : Bd g N τ m q B) (hB : B < 520) : ∃ k : Nat, m.1 4 τ = (k : Int) ∧ k < 520 := ⟨(m.1 4 τ).toNat, (Int.toNat_of_nonneg h.2.2.1).symm, by have := h.2.2.2; have := h.2.2.1; omega⟩
theorem dX12_atom_0 : decode cX12_atom 0 = .ok (.aload_n 0, 1) := by decide +kernel
theorem dX12_atom_1 : decode cX12_atom 1 = .ok (.invokevirtual 119, 3) := by decide +kernel
theorem dX12_atom_4 : decode cX12_atom 4 = .ok (.istore_n 1, 1) := by decide +kernel
theorem dX12_atom_5 : decode cX12_atom 5 = .ok (.iload_n 1, 1) := by decide +kernel
theorem dX12_atom_6 : decode cX12_atom 6 = .ok (.invokestatic 122, 3) := by decide +kernel
theorem dX12_atom_9 : decode cX12_atom 9 = .ok (.ifCond .eq 15, 3) := by decide +kernel
theorem dX12_atom_12 : decode cX12_atom 12 = .ok (.aload_n 0, 1) := by decide +kernel
theorem dX12_atom_13 : decode cX12_atom 13 = .ok (.iconst 0, 1) := by decide +kernel
theorem dX12_atom_14 : decode cX12_atom 14 = .ok (.aload_n 0, 1) := by decide +kernel
theorem dX12_atom_15 : decode cX12_atom 15 = .ok (.invokevirtual 126, 3) := by decide +kernel
theorem dX12_atom_18 : decode cX12_atom 18 = .ok (.invokevirtual 129, 3) := by decide +kernel
theorem dX12_atom_21 : decode cX12_atom 21 = .ok (.goto 68, 3) := by decide +kernel
theorem dX12_atom_24 : decode cX12_atom 24 = .ok (.iload_n 1, 1) := by decide +kernel
theorem dX12_atom_25 : decode cX12_atom 25 = .ok (.invokestatic 133, 3) := by decide +kernel
theorem dX12_atom_28 : decode cX12_atom 28 = .ok (.iconst (-1), 1) := by decide +kernel
theorem dX12_atom_29 : decode cX12_atom 29 = .ok (.if_icmp .eq 25, 3) := by decide +kernel
theorem dX12_atom_32 : decode cX12_atom 32 = .ok (.aload_n 0, 1) := by decide +kernel
theorem dX12_atom_33 : decode cX12_atom 33 = .ok (.dup, 1) := by decide +kernel
theorem dX12_atom_34 : decode cX12_atom 34 = .ok (.getfield 100, 3) := by decide +kernel
theorem dX12_atom_37 : decode cX12_atom 37 = .ok (.iconst 1, 1) := by decide +kernel
theorem dX12_atom_38 : decode cX12_atom 38 = .ok (.iadd, 1) := by decide +kernel
theorem dX12_atom_39 : decode cX12_atom 39 = .ok (.putfield 100, 3) := by decide +kernel
theorem dX12_atom_42 : decode cX12_atom 42 = .ok (.aload_n 0, 1) := by decide +kernel
theorem dX12_atom_43 : decode cX12_atom 43 = .ok (.iconst 1, 1) := by decide +kernel
theorem dX12_atom_44 : decode cX12_atom 44 = .ok (.iload_n 1, 1) := by decide +kernel
theorem dX12_atom_45 : decode cX12_atom 45 = .ok (.invokestatic 133, 3) := by decide +kernel
theorem dX12_atom_48 : decode cX12_atom 48 = .ok (.invokevirtual 129, 3) := by decide +kernel
theorem dX12_atom_51 : decode cX12_atom 51 = .ok (.goto 38, 3) := by decide +kernel
theorem dX12_atom_54 : decode cX12_atom 54 = .ok (.iload_n 1, 1) := by decide +kernel
theorem dX12_atom_55 : decode cX12_atom 55 = .ok (.bipush 91, 2) := by decide +kernel
theorem dX12_atom_57 : decode cX12_atom 57 = .ok (.if_icmp .ne 28, 3) := by decide +kernel
theorem dX12_atom_60 : decode cX12_atom 60 = .ok (.aload_n 0, 1) := by decide +kernel
theorem dX12_atom_61 : decode cX12_atom 61 = .ok (.invokevirtual 137, 3) := by decide +kernel
theorem dX12_atom_64 : decode cX12_atom 64 = .ok (.aload_n 0, 1) := by decide +kernel
theorem dX12_atom_65 : decode cX12_atom 65 = .ok (.getfield 107, 3) := by decide +kernel
theorem dX12_atom_68 : decode cX12_atom 68 = .ok (.iconst (-1), 1) := by decide +kernel
theorem dX12_atom_69 : decode cX12_atom 69 = .ok (.if_icmp .ne 20, 3) := by decide +kernel
theorem dX12_atom_72 : decode cX12_atom 72 = .ok (.aload_n 0, 1) := by decide +kernel
theorem dX12_atom_73 : decode cX12_atom 73 = .ok (.invokevirtual 140, 3) := by decide +kernel
theorem dX12_atom_76 : decode cX12_atom 76 = .ok (.aload_n 0, 1) := by decide +kernel
theorem dX12_atom_77 : decode cX12_atom 77 = .ok (.bipush 93, 2) := by decide +kernel
theorem dX12_atom_79 : decode cX12_atom 79 = .ok (.invokevirtual 143, 3) := by decide +kernel
theorem dX12_atom_82 : decode cX12_atom 82 = .ok (.goto 7, 3) := by decide +kernel
theorem dX12_atom_85 : decode cX12_atom 85 = .ok (.aload_n 0, 1) := by decide +kernel
theorem dX12_atom_86 : decode cX12_atom 86 = .ok (.invokevirtual 116, 3) := by decide +kernel
theorem dX12_atom_89 : decode cX12_atom 89 = .ok (.return_, 1) := by decide +kernel
set_option maxHeartbeats 4000000 in
set_option maxRecDepth 100000 in
theorem ctM_atom0 {r d D B B' : Nat} {S : (Nat → Int) → Nat → PR} (hr : d + r = 6) (hD : 3 ≤ D) (hB : 241 ≤ B) (hBB : B' ≤ B) (hB5 : B < 500) (hS : r ≠ 0 → CP (D - 1) yX12_sum cX12_sum 2 (d + 1) B' S ∧ GG S) : CP D yX12_atom cX12_atom 2 d B (fun g => pAt g r (S g)) := by
  intro g N τ a L μ h hL
  refine ct_intro [some (vR 0), none] RX12 (by decide) rfl XM rfl (Nat.le_of_ble_eq_true rfl) (fun K hO => ?_)
  have hN := h.1.1.1
  have hG := h.G
  obtain ⟨WW, hGG⟩ := id (show r ≠ 0 → ∃ W, PGd g N W (S g) from fun e => (hS e).2 g N hG) |> fun f => (Classical.em (r = 0)).elim (fun e => (⟨fun _ => True, fun k => absurd e k⟩ : ∃ W, r ≠ 0 → PGd g N W (S g))) (fun e => (f e).elim (fun W hW => ⟨W, fun _ => hW⟩))
  have hpN := sk_le hG h.le
  refine aw_aload_n hO dX12_atom_0 rfl rfl ?_
  refine aw_callVE (as := []) (st := []) hO dX12_atom_1 rfl (lw_t6 140 rfl rfl) kX12_look (T := TX12) rfl (by decide) rfl (ctM_look μ h.1 h.at h.le) (by omega) rfl rfl rfl (Nat.le_of_ble_eq_true rfl) (fun v1 μ2 hq3 => ?_)
  obtain ⟨e_v1, e_μ2⟩ := hq3
  subst e_v1
  have hp_μ2 := h.look
  rw [← e_μ2] at hp_μ2
  have hf_μ2 : Fr (sS τ) μ μ2 := by rw [e_μ2]; exact Fr.rf.st sS_at _
  have hr_μ2 := h.G.rng (sk g a)
  refine aw_istore_n (ls' := [some (vR 0), some (vI (g (sk g a)))]) hO dX12_atom_4 rfl (Nat.le_of_ble_eq_true rfl) rfl rfl ?_
  refine aw_iload_n hO dX12_atom_5 rfl rfl ?_
  refine aw_callSI (as := [vI (g (sk g a))]) (st := []) hO dX12_atom_6 rfl (lw_t6 165 rfl rfl) kX12_isDigit (ctM_isDigit μ2 (v := g (sk g a)) ⟨by omega, by omega⟩) (by omega) rfl rfl rfl (Nat.le_of_ble_eq_true rfl) ?_
  refine aw_ifz_eq (tgt := 24) hO dX12_atom_9 rfl rfl (fun c9 => ?_) (fun c9 => ?_)
  · refine aw_iload_n hO dX12_atom_24 rfl rfl ?_
    refine aw_callSI (as := [vI (g (sk g a))]) (st := []) hO dX12_atom_25 rfl (lw_t6 223 rfl rfl) kX12_letterOf (ctM_letterOf μ2 (v := g (sk g a)) ⟨by omega, by omega⟩) (by omega) rfl rfl rfl (Nat.le_of_ble_eq_true rfl) ?_
    refine aw_iconst hO dX12_atom_28 rfl ?_
    refine aw_icmp_eq (tgt := 54) hO dX12_atom_29 rfl rfl ⟨by have := letV_rng (g (sk g a)); omega, by have := letV_rng (g (sk g a)); omega⟩ (inRlit _) (fun c29 => ?_) (fun c29 => ?_)
    · refine aw_iload_n hO dX12_atom_54 rfl rfl ?_
      refine aw_bipush hO dX12_atom_55 rfl (by decide) (by decide) ?_
      refine aw_icmp_ne (tgt := 85) hO dX12_atom_57 rfl rfl ⟨by omega, by omega⟩ (inRlit _) (fun c57 => ?_) (fun c57 => ?_)
      · refine aw_aload_n hO dX12_atom_85 rfl rfl ?_
        refine aw_callVV (as := []) (st := []) hO dX12_atom_86 rfl (lw_t6 168 rfl rfl) kX12_bad (T := TX12) rfl (by decide) rfl (ctM_bad μ2 hp_μ2.at hp_μ2.wr) (by omega) rfl rfl rfl (Nat.le_of_ble_eq_true rfl) (fun μ5 hq6 => ?_)
        have hb_μ5 := hp_μ2.bad (B := B) (by omega)
        rw [← hq6] at hb_μ5
        have hf_μ5 : Fr (sS τ) μ μ5 := by rw [hq6]; exact hf_μ2.st sS_wr _
        refine aw_vret hO dX12_atom_89 ?_
        exact ⟨rfl, hf_μ5, (PO_b (pAt_e c9 c29 c57)).mpr (hb_μ5.mono (by omega))⟩
      · refine aw_aload_n hO dX12_atom_60 rfl rfl ?_
        have hlt := hG.lt (p := sk g a) (by omega)
        rcases Nat.eq_zero_or_pos r with hr0 | hr0
        · refine aw_callVV (as := []) (st := []) hO dX12_atom_61 rfl (lw_t6 195 rfl rfl) kX12_opens (T := TX12) rfl (by decide) rfl (ctM_opensB μ2 (B := 240) hp_μ2 (by omega) (by omega)) (by omega) rfl rfl rfl (Nat.le_of_ble_eq_true rfl) (fun μ8 hq9 => ?_)
          obtain ⟨hf0_μ8, ho_μ8⟩ := hq9
          have hf_μ8 : Fr (sS τ) μ μ8 := hf_μ2.tr hf0_μ8
          refine aw_aload_n hO dX12_atom_64 rfl rfl ?_
          refine gM_wrong hO dX12_atom_65 rfl ?_
          refine aw_cg ho_μ8.2.1.1 ?_
          refine aw_iconst hO dX12_atom_68 rfl ?_
          refine aw_icmp_ne (tgt := 89) hO dX12_atom_69 rfl rfl (inRn (by omega)) (inRlit _) (fun c69 => ?_) (fun c69 => ?_)
          · refine aw_vret hO dX12_atom_89 ?_
            exact ⟨rfl, hf_μ8, (PO_b (pAt_o0 c9 c29 c57 hr0)).mpr (ho_μ8.mono (by omega))⟩
          · exact absurd c69 (by omega)
        · refine aw_callVV (as := []) (st := []) hO dX12_atom_61 rfl (lw_t6 195 rfl rfl) kX12_opens (T := TX12) rfl (by decide) rfl (ctM_opens μ2 hp_μ2 (by omega) hlt) (by omega) rfl rfl rfl (Nat.le_of_ble_eq_true rfl) (fun μ11 hq12 => ?_)
          obtain ⟨hf0_μ11, ho_μ11⟩ := hq12
          have hf_μ11 : Fr (sS τ) μ μ11 := hf_μ2.tr hf0_μ11
          refine aw_aload_n hO dX12_atom_64 rfl rfl ?_
          refine gM_wrong hO dX12_atom_65 rfl ?_
          refine aw_cg ho_μ11.wr ?_
          refine aw_iconst hO dX12_atom_68 rfl ?_
          refine aw_icmp_ne (tgt := 89) hO dX12_atom_69 rfl rfl (inRlit _) (inRlit _) (fun c69 => ?_) (fun c69 => ?_)
          · exact absurd c69 (by omega)
          · refine aw_aload_n hO dX12_atom_72 rfl rfl ?_
            refine aw_callVV (as := []) (st := []) hO dX12_atom_73 rfl (lw_t6 207 rfl rfl) kX12_sum (T := TX12) rfl (by decide) rfl ((hS (by omega)).1 g N τ (sk g a + 1) L μ11 ho_μ11 (by have := sk_ge g (sk g a + 1); omega)) (by omega) rfl rfl rfl (Nat.le_of_ble_eq_true rfl) (fun μ14 hq15 => ?_)
            obtain ⟨hf0_μ14, ho_μ14⟩ := hq15
            have hf_μ14 : Fr (sS τ) μ μ14 := hf_μ11.tr hf0_μ14
            rcases hx14 : S g (sk g (sk g a + 1)) with ⟨q14, _ | t14⟩
            · have hb_μ14 := (PO_b hx14).mp ho_μ14
              have hqN14 := hb_μ14.2.1.2
              refine aw_aload_n hO dX12_atom_76 rfl rfl ?_
              refine aw_bipush hO dX12_atom_77 rfl (by decide) (by decide) ?_
              refine aw_callVV (as := [vI 93]) (st := []) hO dX12_atom_79 rfl (lw_t6 203 rfl rfl) kX12_closes (T := TX12) rfl (by decide) rfl (ctM_closesB μ14 (c := 93) hb_μ14) (by omega) rfl rfl rfl (Nat.le_of_ble_eq_true rfl) (fun μ17 hq18 => ?_)
              obtain ⟨hf0_μ17, hb_μ17⟩ := hq18
              have hf_μ17 : Fr (sS τ) μ μ17 := hf_μ14.tr hf0_μ17
              refine aw_goto (tgt := 89) hO dX12_atom_82 rfl ?_
              refine aw_vret hO dX12_atom_89 ?_
              exact ⟨rfl, hf_μ17, (PO_b ((pAt_o c9 c29 c57 (by omega)).trans (by rw [hx14]; rfl))).mpr (hb_μ17.mono (by omega))⟩
            · obtain ⟨b14, hs14, hp_μ14⟩ := (PO_g hx14).mp ho_μ14
              have hle14 := hp_μ14.le
              obtain ⟨u1, u2, u3, u4, u5⟩ := (hGG (by omega) (sk g (sk g a + 1)) (sk_le hG (by omega))).2 q14 t14 hx14
              have hsg := sk_ge g (sk g a + 1)
              have hlen : (L ++ t14).length ≤ 240 := by rw [List.length_append]; omega
              refine aw_aload_n hO dX12_atom_76 rfl rfl ?_
              refine aw_bipush hO dX12_atom_77 rfl (by decide) (by decide) ?_
              refine aw_callVV (as := [vI 93]) (st := []) hO dX12_atom_79 rfl (lw_t6 203 rfl rfl) kX12_closes (T := TX12) rfl (by decide) rfl (ctM_closes μ14 (B := 240) (c := 93) hp_μ14 (inRlit _) (by decide) hlen) (by omega) rfl rfl rfl (Nat.le_of_ble_eq_true rfl) (fun μ20 hq21 => ?_)
              obtain ⟨hf0_μ20, hg_μ20, hb_μ20⟩ := hq21
              have hf_μ20 : Fr (sS τ) μ μ20 := hf_μ14.tr hf0_μ20
              rw [hs14] at hg_μ20 hb_μ20
              by_cases e93 : g q14 = 93
              · have hp_μ20 := hg_μ20 e93
                refine aw_goto (tgt := 89) hO dX12_atom_82 rfl ?_
                refine aw_vret hO dX12_atom_89 ?_
                exact ⟨rfl, hf_μ20, (PO_g ((pAt_o c9 c29 c57 (by omega)).trans (by rw [hx14, shut_g e93]))).mpr ⟨_, rfl, hp_μ20⟩⟩
              · have hb2_μ20 := hb_μ20 e93
                refine aw_goto (tgt := 89) hO dX12_atom_82 rfl ?_
                refine aw_vret hO dX12_atom_89 ?_
                exact ⟨rfl, hf_μ20, (PO_b ((pAt_o c9 c29 c57 (by omega)).trans (by rw [hx14, shut_n e93]))).mpr (hb2_μ20.mono (by omega))⟩
    · have hlt := hG.lt (letV_e c29)
      refine aw_aload_n hO dX12_atom_32 rfl rfl ?_
      refine aw_dup hO dX12_atom_33 rfl rfl ?_
      refine gM_at hO dX12_atom_34 rfl ?_
      refine aw_cg hp_μ2.at ?_
      refine aw_iconst hO dX12_atom_37 rfl ?_
      refine aw_iadd hO dX12_atom_38 rfl ?_
      refine pM_at hO dX12_atom_39 rfl ?_
      refine aw_mm (fun μ22 e_μ22 => ?_)
      have hf_μ22 : Fr (sS τ) μ μ22 := by rw [e_μ22]; exact hf_μ2.st sS_at _
      have hp_μ22 := hp_μ2.to (b := ((sk g a) + 1)) (by omega)
      rw [show ((((sk g a) + 1) : Nat) : Int) = (((sk g a) : Nat) : Int) + 1 from rfl, ← e_μ22] at hp_μ22
      refine aw_aload_n hO dX12_atom_42 rfl rfl ?_
      refine aw_iconst hO dX12_atom_43 rfl ?_
      refine aw_iload_n hO dX12_atom_44 rfl rfl ?_
      refine aw_callSI (as := [vI (g (sk g a))]) (st := [vI 1, vR 0]) hO dX12_atom_45 rfl (lw_t6 223 rfl rfl) kX12_letterOf (ctM_letterOf μ22 (v := g (sk g a)) ⟨by omega, by omega⟩) (by omega) rfl rfl rfl (Nat.le_of_ble_eq_true rfl) ?_
      refine aw_callVV (as := [vI 1, vI (letV (g (sk g a)))]) (st := []) hO dX12_atom_48 rfl (lw_t6 199 rfl rfl) kX12_put (T := TX12) rfl (by decide) rfl (ctM_put μ22 hp_μ22.1.2.2.2.1 hp_μ22.1.2.2.2.2 hp_μ22.co (by omega) 1 (letV (g (sk g a)))) (by omega) rfl rfl rfl (Nat.le_of_ble_eq_true rfl) (fun μ24 hq25 => ?_)
      have hp_μ24 := hp_μ22.put (by omega) 1 (letV (g (sk g a)))
      rw [← hq25] at hp_μ24
      have hf_μ24 : Fr (sS τ) μ μ24 := by rw [hq25]; exact Fr_put hf_μ22 (by omega)
      refine aw_goto (tgt := 89) hO dX12_atom_51 rfl ?_
      refine aw_vret hO dX12_atom_89 ?_
      exact ⟨rfl, hf_μ24, (PO_g (pAt_l c9 c29)).mpr ⟨_, rfl, hp_μ24⟩⟩
  · refine aw_aload_n hO dX12_atom_12 rfl rfl ?_
    refine aw_iconst hO dX12_atom_13 rfl ?_
    refine aw_aload_n hO dX12_atom_14 rfl rfl ?_
    refine aw_callVE (as := []) (st := [vI 0, vR 0]) hO dX12_atom_15 rfl (lw_t6 219 rfl rfl) kX12_plainNumber (T := TX12) rfl (by decide) rfl (ctM_plainNumber μ2 (B := 240) hp_μ2 (by omega)) (by omega) rfl rfl rfl (Nat.le_of_ble_eq_true rfl) (fun v26 μ27 hq28 => ?_)
    obtain ⟨hf0_μ27, hob_μ27, hog_μ27⟩ := hq28
    have hf_μ27 : Fr (sS τ) μ μ27 := hf_μ2.tr hf0_μ27
    rcases hx : pDg g 4 (sk g a) 0 with ⟨q, _ | x⟩
    · have hb_μ27 := hob_μ27 q hx
      obtain ⟨k_μ27, hk_μ27, hk2_μ27⟩ := hb_μ27.k (by omega)
      refine aw_callVV (as := [vI 0, vI v26]) (st := []) hO dX12_atom_18 rfl (lw_t6 199 rfl rfl) kX12_put (T := TX12) rfl (by decide) rfl (ctM_put μ27 hb_μ27.1.2.2.2.1 hb_μ27.1.2.2.2.2 hk_μ27 hk2_μ27 0 v26) (by omega) rfl rfl rfl (Nat.le_of_ble_eq_true rfl) (fun μ30 hq31 => ?_)
      have hb_μ30 := hb_μ27.put hk_μ27 hk2_μ27 0 v26
      rw [← hq31] at hb_μ30
      have hf_μ30 : Fr (sS τ) μ μ30 := by rw [hq31]; exact Fr_put hf_μ27 hk2_μ27
      refine aw_goto (tgt := 89) hO dX12_atom_21 rfl ?_
      refine aw_vret hO dX12_atom_89 ?_
      exact ⟨rfl, hf_μ30, (PO_b (pAt_db c9 hx)).mpr (hb_μ30.mono (by omega))⟩
    · obtain ⟨e_v26, hp_μ27⟩ := hog_μ27 q x hx
      rw [e_v26]
      refine aw_callVV (as := [vI 0, vI x]) (st := []) hO dX12_atom_18 rfl (lw_t6 199 rfl rfl) kX12_put (T := TX12) rfl (by decide) rfl (ctM_put μ27 hp_μ27.1.2.2.2.1 hp_μ27.1.2.2.2.2 hp_μ27.co (by omega) 0 x) (by omega) rfl rfl rfl (Nat.le_of_ble_eq_true rfl) (fun μ33 hq34 => ?_)
      have hp_μ33 := hp_μ27.put (by omega) 0 x
      rw [← hq34] at hp_μ33
      have hf_μ33 : Fr (sS τ) μ μ33 := by rw [hq34]; exact Fr_put hf_μ27 (by omega)
      refine aw_goto (tgt := 89) hO dX12_atom_21 rfl ?_
      refine aw_vret hO dX12_atom_89 ?_
      exact ⟨rfl, hf_μ33, (PO_g (pAt_dg c9 hx)).mpr ⟨q, rfl, hp_μ33⟩⟩
theorem dX12_term_0 : decode cX12_term 0 = .ok (.aload_n 0, 1) := by decide +kernel
theorem dX12_term_1 : decode cX12_term 1 = .ok (.invokevirtual 147, 3) := by decide +kernel
theorem dX12_term_4 : decode cX12_term 4 = .ok (.aload_n 0, 1) := by decide +kernel
theorem dX12_term_5 : decode cX12_term 5 = .ok (.getfield 107, 3) := by decide +kernel
theorem dX12_term_8 : decode cX12_term 8 = .ok (.iconst (-1), 1) := by decide +kernel
theorem dX12_term_9 : decode cX12_term 9 = .ok (.if_icmp .ne 10, 3) := by decide +kernel
theorem dX12_term_12 : decode cX12_term 12 = .ok (.aload_n 0, 1) := by decide +kernel
theorem dX12_term_13 : decode cX12_term 13 = .ok (.invokevirtual 119, 3) := by decide +kernel
theorem dX12_term_16 : decode cX12_term 16 = .ok (.goto 4, 3) := by decide +kernel
theorem dX12_term_19 : decode cX12_term 19 = .ok (.iconst (-1), 1) := by decide +kernel
theorem dX12_term_20 : decode cX12_term 20 = .ok (.istore_n 1, 1) := by decide +kernel
theorem dX12_term_21 : decode cX12_term 21 = .ok (.iload_n 1, 1) := by decide +kernel
theorem dX12_term_22 : decode cX12_term 22 = .ok (.bipush 42, 2) := by decide +kernel
theorem dX12_term_24 : decode cX12_term 24 = .ok (.if_icmp .eq 9, 3) := by decide +kernel
theorem dX12_term_27 : decode cX12_term 27 = .ok (.iload_n 1, 1) := by decide +kernel
theorem dX12_term_28 : decode cX12_term 28 = .ok (.bipush 47, 2) := by decide +kernel
theorem dX12_term_30 : decode cX12_term 30 = .ok (.if_icmp .ne 53, 3) := by decide +kernel
theorem dX12_term_33 : decode cX12_term 33 = .ok (.aload_n 0, 1) := by decide +kernel
theorem dX12_term_34 : decode cX12_term 34 = .ok (.dup, 1) := by decide +kernel
theorem dX12_term_35 : decode cX12_term 35 = .ok (.getfield 100, 3) := by decide +kernel
theorem dX12_term_38 : decode cX12_term 38 = .ok (.iconst 1, 1) := by decide +kernel
theorem dX12_term_39 : decode cX12_term 39 = .ok (.iadd, 1) := by decide +kernel
theorem dX12_term_40 : decode cX12_term 40 = .ok (.putfield 100, 3) := by decide +kernel
theorem dX12_term_43 : decode cX12_term 43 = .ok (.aload_n 0, 1) := by decide +kernel
theorem dX12_term_44 : decode cX12_term 44 = .ok (.invokevirtual 147, 3) := by decide +kernel
theorem dX12_term_47 : decode cX12_term 47 = .ok (.aload_n 0, 1) := by decide +kernel
theorem dX12_term_48 : decode cX12_term 48 = .ok (.iload_n 1, 1) := by decide +kernel
theorem dX12_term_49 : decode cX12_term 49 = .ok (.bipush 42, 2) := by decide +kernel
theorem dX12_term_51 : decode cX12_term 51 = .ok (.if_icmp .ne 7, 3) := by decide +kernel
theorem dX12_term_54 : decode cX12_term 54 = .ok (.iconst 4, 1) := by decide +kernel
theorem dX12_term_55 : decode cX12_term 55 = .ok (.goto 4, 3) := by decide +kernel
theorem dX12_term_58 : decode cX12_term 58 = .ok (.iconst 5, 1) := by decide +kernel
theorem dX12_term_59 : decode cX12_term 59 = .ok (.iconst 0, 1) := by decide +kernel
theorem dX12_term_60 : decode cX12_term 60 = .ok (.invokevirtual 129, 3) := by decide +kernel
theorem dX12_term_63 : decode cX12_term 63 = .ok (.aload_n 0, 1) := by decide +kernel
theorem dX12_term_64 : decode cX12_term 64 = .ok (.getfield 107, 3) := by decide +kernel
theorem dX12_term_67 : decode cX12_term 67 = .ok (.iconst (-1), 1) := by decide +kernel
theorem dX12_term_68 : decode cX12_term 68 = .ok (.if_icmp .ne 10, 3) := by decide +kernel
theorem dX12_term_71 : decode cX12_term 71 = .ok (.aload_n 0, 1) := by decide +kernel
theorem dX12_term_72 : decode cX12_term 72 = .ok (.invokevirtual 119, 3) := by decide +kernel
theorem dX12_term_75 : decode cX12_term 75 = .ok (.goto 4, 3) := by decide +kernel
theorem dX12_term_78 : decode cX12_term 78 = .ok (.iconst (-1), 1) := by decide +kernel
theorem dX12_term_79 : decode cX12_term 79 = .ok (.istore_n 1, 1) := by decide +kernel
theorem dX12_term_80 : decode cX12_term 80 = .ok (.goto (-59), 3) := by decide +kernel
theorem dX12_term_83 : decode cX12_term 83 = .ok (.return_, 1) := by decide +kernel
set_option maxHeartbeats 4000000 in
set_option maxRecDepth 100000 in
theorem ctM_term0 {d D B : Nat} {R : (Nat → Int) → Nat → PR} (hD : 3 ≤ D) (hB : 241 ≤ B) (hB5 : B < 500) (hI : CP D yX12_atom cX12_atom 2 d B R) (hR : GG R) : CP (D + 1) yX12_term cX12_term 2 d (B + 1) (fun g => chn g (R g) sepM) := by
  intro g N τ a L μ h hL
  refine ct_intro [some (vR 0), none] RX12 (by decide) rfl XM rfl (Nat.le_of_ble_eq_true rfl) (fun K hO => ?_)
  have hN := h.1.1.1
  have hG := h.G
  have hpN := sk_le hG h.le
  obtain ⟨W, hGG⟩ := hR g N hG
  have lp : ∀ (f q : Nat) (t : List Tok) (m : Mm), N < q + f → sk g q = q → L.length + t.length ≤ q → rest g (R g) sepM f q t = chn g (R g) sepM (sk g a) → Fr (sS τ) μ m → PS g N τ m q d (L ++ t) → AW K 21 [some (vR 0), some (vI (g q))] [] m := by
    intro f
    induction f with
    | zero =>
      intro q t m hf hsk hl e0 hf0 hp
      have := hp.le
      omega
    | succ f ih =>
      intro q t m hf hsk hl e0 hf0 hp
      have hqN := hp.le
      have hr := hG.rng q
      have hll : (L ++ t).length ≤ 240 := by rw [List.length_append]; omega
      refine aw_iload_n hO dX12_term_21 rfl rfl ?_
      refine aw_bipush hO dX12_term_22 rfl (by decide) (by decide) ?_
      refine aw_icmp_eq (tgt := 33) hO dX12_term_24 rfl rfl ⟨by omega, by omega⟩ (inRlit _) (fun c24 => ?_) (fun c24 => ?_)
      · have hsep : sepM (g q) = some 4 := by unfold sepM; rw [if_pos c24]
        have hlt := hG.lt (p := q) (by omega)
        refine aw_aload_n hO dX12_term_33 rfl rfl ?_
        refine aw_dup hO dX12_term_34 rfl rfl ?_
        refine gM_at hO dX12_term_35 rfl ?_
        refine aw_cg hp.at ?_
        refine aw_iconst hO dX12_term_38 rfl ?_
        refine aw_iadd hO dX12_term_39 rfl ?_
        refine pM_at hO dX12_term_40 rfl ?_
        refine aw_mm (fun μ1 e_μ1 => ?_)
        have hf_μ1 : Fr (sS τ) μ μ1 := by rw [e_μ1]; exact hf0.st sS_at _
        have hp_μ1 := hp.to (b := (q + 1)) (by omega)
        rw [show (((q + 1) : Nat) : Int) = ((q : Nat) : Int) + 1 from rfl, ← e_μ1] at hp_μ1
        refine aw_aload_n hO dX12_term_43 rfl rfl ?_
        refine aw_callVV (as := []) (st := []) hO dX12_term_44 rfl (lw_t6 215 rfl rfl) kX12_atom (T := TX12) rfl (by decide) rfl (hI g N τ (q + 1) (L ++ t) μ1 hp_μ1 (by have := sk_ge g (q + 1); rw [List.length_append]; omega)) (by omega) rfl rfl rfl (Nat.le_of_ble_eq_true rfl) (fun μ3 hq4 => ?_)
        obtain ⟨hf0_μ3, ho_μ3⟩ := hq4
        have hf_μ3 : Fr (sS τ) μ μ3 := hf_μ1.tr hf0_μ3
        rcases hx3 : R g (sk g (q + 1)) with ⟨q3, _ | t3⟩
        · have hb_μ3 := (PO_b hx3).mp ho_μ3
          have hqN3 := hb_μ3.2.1.2
          refine aw_aload_n hO dX12_term_47 rfl rfl ?_
          refine aw_iload_n hO dX12_term_48 rfl rfl ?_
          refine aw_bipush hO dX12_term_49 rfl (by decide) (by decide) ?_
          refine aw_icmp_ne (tgt := 58) hO dX12_term_51 rfl rfl ⟨by omega, by omega⟩ (inRlit _) (fun c51 => ?_) (fun c51 => ?_)
          · exact absurd (by assumption) (by omega)
          · refine aw_iconst hO dX12_term_54 rfl ?_
            refine aw_goto (tgt := 59) hO dX12_term_55 rfl ?_
            refine aw_iconst hO dX12_term_59 rfl ?_
            obtain ⟨k_μ3, hk_μ3, hk2_μ3⟩ := hb_μ3.k (by omega)
            refine aw_callVV (as := [vI 4, vI 0]) (st := []) hO dX12_term_60 rfl (lw_t6 199 rfl rfl) kX12_put (T := TX12) rfl (by decide) rfl (ctM_put μ3 hb_μ3.1.2.2.2.1 hb_μ3.1.2.2.2.2 hk_μ3 hk2_μ3 4 0) (by omega) rfl rfl rfl (Nat.le_of_ble_eq_true rfl) (fun μ6 hq7 => ?_)
            have hb_μ6 := hb_μ3.put hk_μ3 hk2_μ3 4 0
            rw [← hq7] at hb_μ6
            have hf_μ6 : Fr (sS τ) μ μ6 := by rw [hq7]; exact Fr_put hf_μ3 hk2_μ3
            refine aw_aload_n hO dX12_term_63 rfl rfl ?_
            refine gM_wrong hO dX12_term_64 rfl ?_
            refine aw_cg hb_μ6.2.1.1 ?_
            refine aw_iconst hO dX12_term_67 rfl ?_
            refine aw_icmp_ne (tgt := 78) hO dX12_term_68 rfl rfl (inRn (by omega)) (inRlit _) (fun c68 => ?_) (fun c68 => ?_)
            · refine aw_iconst hO dX12_term_78 rfl ?_
              refine aw_istore_n (ls' := [some (vR 0), some (vI (-1))]) hO dX12_term_79 rfl (Nat.le_of_ble_eq_true rfl) rfl rfl ?_
              refine aw_goto (tgt := 21) hO dX12_term_80 rfl ?_
              refine aw_iload_n hO dX12_term_21 rfl rfl ?_
              refine aw_bipush hO dX12_term_22 rfl (by decide) (by decide) ?_
              refine aw_icmp_eq (tgt := 33) hO dX12_term_24 rfl rfl (inRlit _) (inRlit _) (fun c24 => ?_) (fun c24 => ?_)
              · exact absurd c24 (by omega)
              · refine aw_iload_n hO dX12_term_27 rfl rfl ?_
                refine aw_bipush hO dX12_term_28 rfl (by decide) (by decide) ?_
                refine aw_icmp_ne (tgt := 83) hO dX12_term_30 rfl rfl (inRlit _) (inRlit _) (fun c30 => ?_) (fun c30 => ?_)
                · refine aw_vret hO dX12_term_83 ?_
                  exact ⟨rfl, hf_μ6, (PO_b (e0.symm.trans (rest_b hsep hx3))).mpr (hb_μ6.mono (by omega))⟩
                · exact absurd c30 (by omega)
            · exact absurd c68 (by omega)
        · obtain ⟨b3, hs3, hp_μ3⟩ := (PO_g hx3).mp ho_μ3
          have hle3 := hp_μ3.le
          obtain ⟨u1, u2, u3, u4, u5⟩ := (hGG (sk g (q + 1)) (sk_le hG (by omega))).2 q3 t3 hx3
          have hsg := sk_ge g (q + 1)
          have hlen : (L ++ t ++ t3).length ≤ 240 := by rw [List.length_append, List.length_append]; omega
          have hll2 : (L ++ t ++ t3 ++ [(4, 0)]).length ≤ 241 := by rw [List.length_append]; simp only [List.length_cons, List.length_nil]; omega
          refine aw_aload_n hO dX12_term_47 rfl rfl ?_
          refine aw_iload_n hO dX12_term_48 rfl rfl ?_
          refine aw_bipush hO dX12_term_49 rfl (by decide) (by decide) ?_
          refine aw_icmp_ne (tgt := 58) hO dX12_term_51 rfl rfl ⟨by omega, by omega⟩ (inRlit _) (fun c51 => ?_) (fun c51 => ?_)
          · exact absurd (by assumption) (by omega)
          · refine aw_iconst hO dX12_term_54 rfl ?_
            refine aw_goto (tgt := 59) hO dX12_term_55 rfl ?_
            refine aw_iconst hO dX12_term_59 rfl ?_
            refine aw_callVV (as := [vI 4, vI 0]) (st := []) hO dX12_term_60 rfl (lw_t6 199 rfl rfl) kX12_put (T := TX12) rfl (by decide) rfl (ctM_put μ3 hp_μ3.1.2.2.2.1 hp_μ3.1.2.2.2.2 hp_μ3.co (by omega) 4 0) (by omega) rfl rfl rfl (Nat.le_of_ble_eq_true rfl) (fun μ9 hq10 => ?_)
            have hp_μ9 := hp_μ3.put (by omega) 4 0
            rw [← hq10] at hp_μ9
            have hf_μ9 : Fr (sS τ) μ μ9 := by rw [hq10]; exact Fr_put hf_μ3 (by omega)
            refine aw_aload_n hO dX12_term_63 rfl rfl ?_
            refine gM_wrong hO dX12_term_64 rfl ?_
            refine aw_cg hp_μ9.wr ?_
            refine aw_iconst hO dX12_term_67 rfl ?_
            refine aw_icmp_ne (tgt := 78) hO dX12_term_68 rfl rfl (inRlit _) (inRlit _) (fun c68 => ?_) (fun c68 => ?_)
            · exact absurd c68 (by omega)
            · refine aw_aload_n hO dX12_term_71 rfl rfl ?_
              refine aw_callVE (as := []) (st := []) hO dX12_term_72 rfl (lw_t6 140 rfl rfl) kX12_look (T := TX12) rfl (by decide) rfl (ctM_look μ9 hp_μ9.1 hp_μ9.at hp_μ9.le) (by omega) rfl rfl rfl (Nat.le_of_ble_eq_true rfl) (fun v11 μ12 hq13 => ?_)
              obtain ⟨e_v11, e_μ12⟩ := hq13
              subst e_v11
              have hp_μ12 := hp_μ9.look
              rw [← e_μ12] at hp_μ12
              have hf_μ12 : Fr (sS τ) μ μ12 := by rw [e_μ12]; exact hf_μ9.st sS_at _
              have hr_μ12 := hp_μ9.G.rng (sk g b3)
              refine aw_goto (tgt := 79) hO dX12_term_75 rfl ?_
              refine aw_istore_n (ls' := [some (vR 0), some (vI (g (sk g b3)))]) hO dX12_term_79 rfl (Nat.le_of_ble_eq_true rfl) rfl rfl ?_
              refine aw_goto (tgt := 21) hO dX12_term_80 rfl ?_
              have hp9 := hp_μ12
              rw [hs3, List.append_assoc, List.append_assoc] at hp9
              rw [hs3]
              exact ih q3 (t ++ (t3 ++ [(4, 0)])) μ12 (by omega) u3 (by simp only [List.length_append, List.length_cons, List.length_nil]; omega) ((rest_g hsep hx3).symm.trans e0) hf_μ12 hp9
      · refine aw_iload_n hO dX12_term_27 rfl rfl ?_
        refine aw_bipush hO dX12_term_28 rfl (by decide) (by decide) ?_
        refine aw_icmp_ne (tgt := 83) hO dX12_term_30 rfl rfl ⟨by omega, by omega⟩ (inRlit _) (fun c30 => ?_) (fun c30 => ?_)
        · refine aw_vret hO dX12_term_83 ?_
          exact ⟨rfl, hf0, (PO_g (e0.symm.trans (rest_n (by unfold sepM; rw [if_neg c24, if_neg c30])))).mpr ⟨q, hsk, hp⟩⟩
        · have hsep : sepM (g q) = some 5 := by unfold sepM; rw [if_neg c24, if_pos c30]
          have hlt := hG.lt (p := q) (by omega)
          refine aw_aload_n hO dX12_term_33 rfl rfl ?_
          refine aw_dup hO dX12_term_34 rfl rfl ?_
          refine gM_at hO dX12_term_35 rfl ?_
          refine aw_cg hp.at ?_
          refine aw_iconst hO dX12_term_38 rfl ?_
          refine aw_iadd hO dX12_term_39 rfl ?_
          refine pM_at hO dX12_term_40 rfl ?_
          refine aw_mm (fun μ14 e_μ14 => ?_)
          have hf_μ14 : Fr (sS τ) μ μ14 := by rw [e_μ14]; exact hf0.st sS_at _
          have hp_μ14 := hp.to (b := (q + 1)) (by omega)
          rw [show (((q + 1) : Nat) : Int) = ((q : Nat) : Int) + 1 from rfl, ← e_μ14] at hp_μ14
          refine aw_aload_n hO dX12_term_43 rfl rfl ?_
          refine aw_callVV (as := []) (st := []) hO dX12_term_44 rfl (lw_t6 215 rfl rfl) kX12_atom (T := TX12) rfl (by decide) rfl (hI g N τ (q + 1) (L ++ t) μ14 hp_μ14 (by have := sk_ge g (q + 1); rw [List.length_append]; omega)) (by omega) rfl rfl rfl (Nat.le_of_ble_eq_true rfl) (fun μ16 hq17 => ?_)
          obtain ⟨hf0_μ16, ho_μ16⟩ := hq17
          have hf_μ16 : Fr (sS τ) μ μ16 := hf_μ14.tr hf0_μ16
          rcases hx16 : R g (sk g (q + 1)) with ⟨q16, _ | t16⟩
          · have hb_μ16 := (PO_b hx16).mp ho_μ16
            have hqN16 := hb_μ16.2.1.2
            refine aw_aload_n hO dX12_term_47 rfl rfl ?_
            refine aw_iload_n hO dX12_term_48 rfl rfl ?_
            refine aw_bipush hO dX12_term_49 rfl (by decide) (by decide) ?_
            refine aw_icmp_ne (tgt := 58) hO dX12_term_51 rfl rfl ⟨by omega, by omega⟩ (inRlit _) (fun c51 => ?_) (fun c51 => ?_)
            · refine aw_iconst hO dX12_term_58 rfl ?_
              refine aw_iconst hO dX12_term_59 rfl ?_
              obtain ⟨k_μ16, hk_μ16, hk2_μ16⟩ := hb_μ16.k (by omega)
              refine aw_callVV (as := [vI 5, vI 0]) (st := []) hO dX12_term_60 rfl (lw_t6 199 rfl rfl) kX12_put (T := TX12) rfl (by decide) rfl (ctM_put μ16 hb_μ16.1.2.2.2.1 hb_μ16.1.2.2.2.2 hk_μ16 hk2_μ16 5 0) (by omega) rfl rfl rfl (Nat.le_of_ble_eq_true rfl) (fun μ19 hq20 => ?_)
              have hb_μ19 := hb_μ16.put hk_μ16 hk2_μ16 5 0
              rw [← hq20] at hb_μ19
              have hf_μ19 : Fr (sS τ) μ μ19 := by rw [hq20]; exact Fr_put hf_μ16 hk2_μ16
              refine aw_aload_n hO dX12_term_63 rfl rfl ?_
              refine gM_wrong hO dX12_term_64 rfl ?_
              refine aw_cg hb_μ19.2.1.1 ?_
              refine aw_iconst hO dX12_term_67 rfl ?_
              refine aw_icmp_ne (tgt := 78) hO dX12_term_68 rfl rfl (inRn (by omega)) (inRlit _) (fun c68 => ?_) (fun c68 => ?_)
              · refine aw_iconst hO dX12_term_78 rfl ?_
                refine aw_istore_n (ls' := [some (vR 0), some (vI (-1))]) hO dX12_term_79 rfl (Nat.le_of_ble_eq_true rfl) rfl rfl ?_
                refine aw_goto (tgt := 21) hO dX12_term_80 rfl ?_
                refine aw_iload_n hO dX12_term_21 rfl rfl ?_
                refine aw_bipush hO dX12_term_22 rfl (by decide) (by decide) ?_
                refine aw_icmp_eq (tgt := 33) hO dX12_term_24 rfl rfl (inRlit _) (inRlit _) (fun c24 => ?_) (fun c24 => ?_)
                · exact absurd c24 (by omega)
                · refine aw_iload_n hO dX12_term_27 rfl rfl ?_
                  refine aw_bipush hO dX12_term_28 rfl (by decide) (by decide) ?_
                  refine aw_icmp_ne (tgt := 83) hO dX12_term_30 rfl rfl (inRlit _) (inRlit _) (fun c30 => ?_) (fun c30 => ?_)
                  · refine aw_vret hO dX12_term_83 ?_
                    exact ⟨rfl, hf_μ19, (PO_b (e0.symm.trans (rest_b hsep hx16))).mpr (hb_μ19.mono (by omega))⟩
                  · exact absurd c30 (by omega)
              · exact absurd c68 (by omega)
            · exact absurd (by assumption) (by omega)
          · obtain ⟨b16, hs16, hp_μ16⟩ := (PO_g hx16).mp ho_μ16
            have hle16 := hp_μ16.le
            obtain ⟨u1, u2, u3, u4, u5⟩ := (hGG (sk g (q + 1)) (sk_le hG (by omega))).2 q16 t16 hx16
            have hsg := sk_ge g (q + 1)
            have hlen : (L ++ t ++ t16).length ≤ 240 := by rw [List.length_append, List.length_append]; omega
            have hll2 : (L ++ t ++ t16 ++ [(4, 0)]).length ≤ 241 := by rw [List.length_append]; simp only [List.length_cons, List.length_nil]; omega
            refine aw_aload_n hO dX12_term_47 rfl rfl ?_
            refine aw_iload_n hO dX12_term_48 rfl rfl ?_
            refine aw_bipush hO dX12_term_49 rfl (by decide) (by decide) ?_
            refine aw_icmp_ne (tgt := 58) hO dX12_term_51 rfl rfl ⟨by omega, by omega⟩ (inRlit _) (fun c51 => ?_) (fun c51 => ?_)
            · refine aw_iconst hO dX12_term_58 rfl ?_
              refine aw_iconst hO dX12_term_59 rfl ?_
              refine aw_callVV (as := [vI 5, vI 0]) (st := []) hO dX12_term_60 rfl (lw_t6 199 rfl rfl) kX12_put (T := TX12) rfl (by decide) rfl (ctM_put μ16 hp_μ16.1.2.2.2.1 hp_μ16.1.2.2.2.2 hp_μ16.co (by omega) 5 0) (by omega) rfl rfl rfl (Nat.le_of_ble_eq_true rfl) (fun μ22 hq23 => ?_)
              have hp_μ22 := hp_μ16.put (by omega) 5 0
              rw [← hq23] at hp_μ22
              have hf_μ22 : Fr (sS τ) μ μ22 := by rw [hq23]; exact Fr_put hf_μ16 (by omega)
              refine aw_aload_n hO dX12_term_63 rfl rfl ?_
              refine gM_wrong hO dX12_term_64 rfl ?_
              refine aw_cg hp_μ22.wr ?_
              refine aw_iconst hO dX12_term_67 rfl ?_
              refine aw_icmp_ne (tgt := 78) hO dX12_term_68 rfl rfl (inRlit _) (inRlit _) (fun c68 => ?_) (fun c68 => ?_)
              · exact absurd c68 (by omega)
              · refine aw_aload_n hO dX12_term_71 rfl rfl ?_
                refine aw_callVE (as := []) (st := []) hO dX12_term_72 rfl (lw_t6 140 rfl rfl) kX12_look (T := TX12) rfl (by decide) rfl (ctM_look μ22 hp_μ22.1 hp_μ22.at hp_μ22.le) (by omega) rfl rfl rfl (Nat.le_of_ble_eq_true rfl) (fun v24 μ25 hq26 => ?_)
                obtain ⟨e_v24, e_μ25⟩ := hq26
                subst e_v24
                have hp_μ25 := hp_μ22.look
                rw [← e_μ25] at hp_μ25
                have hf_μ25 : Fr (sS τ) μ μ25 := by rw [e_μ25]; exact hf_μ22.st sS_at _
                have hr_μ25 := hp_μ22.G.rng (sk g b16)
                refine aw_goto (tgt := 79) hO dX12_term_75 rfl ?_
                refine aw_istore_n (ls' := [some (vR 0), some (vI (g (sk g b16)))]) hO dX12_term_79 rfl (Nat.le_of_ble_eq_true rfl) rfl rfl ?_
                refine aw_goto (tgt := 21) hO dX12_term_80 rfl ?_
                have hp9 := hp_μ25
                rw [hs16, List.append_assoc, List.append_assoc] at hp9
                rw [hs16]
                exact ih q16 (t ++ (t16 ++ [(5, 0)])) μ25 (by omega) u3 (by simp only [List.length_append, List.length_cons, List.length_nil]; omega) ((rest_g hsep hx16).symm.trans e0) hf_μ25 hp9
            · exact absurd (by assumption) (by omega)
  refine aw_aload_n hO dX12_term_0 rfl rfl ?_
  refine aw_callVV (as := []) (st := []) hO dX12_term_1 rfl (lw_t6 215 rfl rfl) kX12_atom (T := TX12) rfl (by decide) rfl (hI g N τ a L μ h hL) (by omega) rfl rfl rfl (Nat.le_of_ble_eq_true rfl) (fun μ28 hq29 => ?_)
  obtain ⟨hf0_μ28, ho_μ28⟩ := hq29
  have hf_μ28 : Fr (sS τ) μ μ28 := Fr.rf.tr hf0_μ28
  rcases hx28 : R g (sk g a) with ⟨q28, _ | t28⟩
  · have hb_μ28 := (PO_b hx28).mp ho_μ28
    have hqN28 := hb_μ28.2.1.2
    refine aw_aload_n hO dX12_term_4 rfl rfl ?_
    refine gM_wrong hO dX12_term_5 rfl ?_
    refine aw_cg hb_μ28.2.1.1 ?_
    refine aw_iconst hO dX12_term_8 rfl ?_
    refine aw_icmp_ne (tgt := 19) hO dX12_term_9 rfl rfl (inRn (by omega)) (inRlit _) (fun c9 => ?_) (fun c9 => ?_)
    · refine aw_iconst hO dX12_term_19 rfl ?_
      refine aw_istore_n (ls' := [some (vR 0), some (vI (-1))]) hO dX12_term_20 rfl (Nat.le_of_ble_eq_true rfl) rfl rfl ?_
      refine aw_iload_n hO dX12_term_21 rfl rfl ?_
      refine aw_bipush hO dX12_term_22 rfl (by decide) (by decide) ?_
      refine aw_icmp_eq (tgt := 33) hO dX12_term_24 rfl rfl (inRlit _) (inRlit _) (fun c24 => ?_) (fun c24 => ?_)
      · exact absurd c24 (by omega)
      · refine aw_iload_n hO dX12_term_27 rfl rfl ?_
        refine aw_bipush hO dX12_term_28 rfl (by decide) (by decide) ?_
        refine aw_icmp_ne (tgt := 83) hO dX12_term_30 rfl rfl (inRlit _) (inRlit _) (fun c30 => ?_) (fun c30 => ?_)
        · refine aw_vret hO dX12_term_83 ?_
          exact ⟨rfl, hf_μ28, (PO_b (chn_b hx28)).mpr (hb_μ28.mono (by omega))⟩
        · exact absurd c30 (by omega)
    · exact absurd c9 (by omega)
  · obtain ⟨b28, hs28, hp_μ28⟩ := (PO_g hx28).mp ho_μ28
    have hle28 := hp_μ28.le
    obtain ⟨u1, u2, u3, u4, u5⟩ := (hGG (sk g a) hpN).2 q28 t28 hx28
    refine aw_aload_n hO dX12_term_4 rfl rfl ?_
    refine gM_wrong hO dX12_term_5 rfl ?_
    refine aw_cg hp_μ28.wr ?_
    refine aw_iconst hO dX12_term_8 rfl ?_
    refine aw_icmp_ne (tgt := 19) hO dX12_term_9 rfl rfl (inRlit _) (inRlit _) (fun c9 => ?_) (fun c9 => ?_)
    · exact absurd c9 (by omega)
    · refine aw_aload_n hO dX12_term_12 rfl rfl ?_
      refine aw_callVE (as := []) (st := []) hO dX12_term_13 rfl (lw_t6 140 rfl rfl) kX12_look (T := TX12) rfl (by decide) rfl (ctM_look μ28 hp_μ28.1 hp_μ28.at hp_μ28.le) (by omega) rfl rfl rfl (Nat.le_of_ble_eq_true rfl) (fun v30 μ31 hq32 => ?_)
      obtain ⟨e_v30, e_μ31⟩ := hq32
      subst e_v30
      have hp_μ31 := hp_μ28.look
      rw [← e_μ31] at hp_μ31
      have hf_μ31 : Fr (sS τ) μ μ31 := by rw [e_μ31]; exact hf_μ28.st sS_at _
      have hr_μ31 := hp_μ28.G.rng (sk g b28)
      refine aw_goto (tgt := 20) hO dX12_term_16 rfl ?_
      refine aw_istore_n (ls' := [some (vR 0), some (vI (g (sk g b28)))]) hO dX12_term_20 rfl (Nat.le_of_ble_eq_true rfl) rfl rfl ?_
      have hp9 := hp_μ31
      rw [hs28] at hp9
      rw [hs28]
      exact lp 241 q28 t28 μ31 (by omega) u3 (by omega) (chn_g hx28).symm hf_μ31 hp9
theorem dX12_sum_0 : decode cX12_sum 0 = .ok (.aload_n 0, 1) := by decide +kernel
theorem dX12_sum_1 : decode cX12_sum 1 = .ok (.invokevirtual 150, 3) := by decide +kernel
theorem dX12_sum_4 : decode cX12_sum 4 = .ok (.aload_n 0, 1) := by decide +kernel
theorem dX12_sum_5 : decode cX12_sum 5 = .ok (.getfield 107, 3) := by decide +kernel
theorem dX12_sum_8 : decode cX12_sum 8 = .ok (.iconst (-1), 1) := by decide +kernel
theorem dX12_sum_9 : decode cX12_sum 9 = .ok (.if_icmp .ne 10, 3) := by decide +kernel
theorem dX12_sum_12 : decode cX12_sum 12 = .ok (.aload_n 0, 1) := by decide +kernel
theorem dX12_sum_13 : decode cX12_sum 13 = .ok (.invokevirtual 119, 3) := by decide +kernel
theorem dX12_sum_16 : decode cX12_sum 16 = .ok (.goto 4, 3) := by decide +kernel
theorem dX12_sum_19 : decode cX12_sum 19 = .ok (.iconst (-1), 1) := by decide +kernel
theorem dX12_sum_20 : decode cX12_sum 20 = .ok (.istore_n 1, 1) := by decide +kernel
theorem dX12_sum_21 : decode cX12_sum 21 = .ok (.iload_n 1, 1) := by decide +kernel
theorem dX12_sum_22 : decode cX12_sum 22 = .ok (.bipush 43, 2) := by decide +kernel
theorem dX12_sum_24 : decode cX12_sum 24 = .ok (.if_icmp .eq 9, 3) := by decide +kernel
theorem dX12_sum_27 : decode cX12_sum 27 = .ok (.iload_n 1, 1) := by decide +kernel
theorem dX12_sum_28 : decode cX12_sum 28 = .ok (.bipush 45, 2) := by decide +kernel
theorem dX12_sum_30 : decode cX12_sum 30 = .ok (.if_icmp .ne 53, 3) := by decide +kernel
theorem dX12_sum_33 : decode cX12_sum 33 = .ok (.aload_n 0, 1) := by decide +kernel
theorem dX12_sum_34 : decode cX12_sum 34 = .ok (.dup, 1) := by decide +kernel
theorem dX12_sum_35 : decode cX12_sum 35 = .ok (.getfield 100, 3) := by decide +kernel
theorem dX12_sum_38 : decode cX12_sum 38 = .ok (.iconst 1, 1) := by decide +kernel
theorem dX12_sum_39 : decode cX12_sum 39 = .ok (.iadd, 1) := by decide +kernel
theorem dX12_sum_40 : decode cX12_sum 40 = .ok (.putfield 100, 3) := by decide +kernel
theorem dX12_sum_43 : decode cX12_sum 43 = .ok (.aload_n 0, 1) := by decide +kernel
theorem dX12_sum_44 : decode cX12_sum 44 = .ok (.invokevirtual 150, 3) := by decide +kernel
theorem dX12_sum_47 : decode cX12_sum 47 = .ok (.aload_n 0, 1) := by decide +kernel
theorem dX12_sum_48 : decode cX12_sum 48 = .ok (.iload_n 1, 1) := by decide +kernel
theorem dX12_sum_49 : decode cX12_sum 49 = .ok (.bipush 43, 2) := by decide +kernel
theorem dX12_sum_51 : decode cX12_sum 51 = .ok (.if_icmp .ne 7, 3) := by decide +kernel
theorem dX12_sum_54 : decode cX12_sum 54 = .ok (.iconst 2, 1) := by decide +kernel
theorem dX12_sum_55 : decode cX12_sum 55 = .ok (.goto 4, 3) := by decide +kernel
theorem dX12_sum_58 : decode cX12_sum 58 = .ok (.iconst 3, 1) := by decide +kernel
theorem dX12_sum_59 : decode cX12_sum 59 = .ok (.iconst 0, 1) := by decide +kernel
theorem dX12_sum_60 : decode cX12_sum 60 = .ok (.invokevirtual 129, 3) := by decide +kernel
theorem dX12_sum_63 : decode cX12_sum 63 = .ok (.aload_n 0, 1) := by decide +kernel
theorem dX12_sum_64 : decode cX12_sum 64 = .ok (.getfield 107, 3) := by decide +kernel
theorem dX12_sum_67 : decode cX12_sum 67 = .ok (.iconst (-1), 1) := by decide +kernel
theorem dX12_sum_68 : decode cX12_sum 68 = .ok (.if_icmp .ne 10, 3) := by decide +kernel
theorem dX12_sum_71 : decode cX12_sum 71 = .ok (.aload_n 0, 1) := by decide +kernel
theorem dX12_sum_72 : decode cX12_sum 72 = .ok (.invokevirtual 119, 3) := by decide +kernel
theorem dX12_sum_75 : decode cX12_sum 75 = .ok (.goto 4, 3) := by decide +kernel
theorem dX12_sum_78 : decode cX12_sum 78 = .ok (.iconst (-1), 1) := by decide +kernel
theorem dX12_sum_79 : decode cX12_sum 79 = .ok (.istore_n 1, 1) := by decide +kernel
theorem dX12_sum_80 : decode cX12_sum 80 = .ok (.goto (-59), 3) := by decide +kernel
theorem dX12_sum_83 : decode cX12_sum 83 = .ok (.return_, 1) := by decide +kernel
set_option maxHeartbeats 4000000 in
set_option maxRecDepth 100000 in
theorem ctM_sum0 {d D B : Nat} {R : (Nat → Int) → Nat → PR} (hD : 3 ≤ D) (hB : 241 ≤ B) (hB5 : B < 500) (hI : CP D yX12_term cX12_term 2 d B R) (hR : GG R) : CP (D + 1) yX12_sum cX12_sum 2 d (B + 1) (fun g => chn g (R g) sepA) := by
  intro g N τ a L μ h hL
  refine ct_intro [some (vR 0), none] RX12 (by decide) rfl XM rfl (Nat.le_of_ble_eq_true rfl) (fun K hO => ?_)
  have hN := h.1.1.1
  have hG := h.G
  have hpN := sk_le hG h.le
  obtain ⟨W, hGG⟩ := hR g N hG
  have lp : ∀ (f q : Nat) (t : List Tok) (m : Mm), N < q + f → sk g q = q → L.length + t.length ≤ q → rest g (R g) sepA f q t = chn g (R g) sepA (sk g a) → Fr (sS τ) μ m → PS g N τ m q d (L ++ t) → AW K 21 [some (vR 0), some (vI (g q))] [] m := by
    intro f
    induction f with
    | zero =>
      intro q t m hf hsk hl e0 hf0 hp
      have := hp.le
      omega
    | succ f ih =>
      intro q t m hf hsk hl e0 hf0 hp
      have hqN := hp.le
      have hr := hG.rng q
      have hll : (L ++ t).length ≤ 240 := by rw [List.length_append]; omega
      refine aw_iload_n hO dX12_sum_21 rfl rfl ?_
      refine aw_bipush hO dX12_sum_22 rfl (by decide) (by decide) ?_
      refine aw_icmp_eq (tgt := 33) hO dX12_sum_24 rfl rfl ⟨by omega, by omega⟩ (inRlit _) (fun c24 => ?_) (fun c24 => ?_)
      · have hsep : sepA (g q) = some 2 := by unfold sepA; rw [if_pos c24]
        have hlt := hG.lt (p := q) (by omega)
        refine aw_aload_n hO dX12_sum_33 rfl rfl ?_
        refine aw_dup hO dX12_sum_34 rfl rfl ?_
        refine gM_at hO dX12_sum_35 rfl ?_
        refine aw_cg hp.at ?_
        refine aw_iconst hO dX12_sum_38 rfl ?_
        refine aw_iadd hO dX12_sum_39 rfl ?_
        refine pM_at hO dX12_sum_40 rfl ?_
        refine aw_mm (fun μ1 e_μ1 => ?_)
        have hf_μ1 : Fr (sS τ) μ μ1 := by rw [e_μ1]; exact hf0.st sS_at _
        have hp_μ1 := hp.to (b := (q + 1)) (by omega)
        rw [show (((q + 1) : Nat) : Int) = ((q : Nat) : Int) + 1 from rfl, ← e_μ1] at hp_μ1
        refine aw_aload_n hO dX12_sum_43 rfl rfl ?_
        refine aw_callVV (as := []) (st := []) hO dX12_sum_44 rfl (lw_t6 211 rfl rfl) kX12_term (T := TX12) rfl (by decide) rfl (hI g N τ (q + 1) (L ++ t) μ1 hp_μ1 (by have := sk_ge g (q + 1); rw [List.length_append]; omega)) (by omega) rfl rfl rfl (Nat.le_of_ble_eq_true rfl) (fun μ3 hq4 => ?_)
        obtain ⟨hf0_μ3, ho_μ3⟩ := hq4
        have hf_μ3 : Fr (sS τ) μ μ3 := hf_μ1.tr hf0_μ3
        rcases hx3 : R g (sk g (q + 1)) with ⟨q3, _ | t3⟩
        · have hb_μ3 := (PO_b hx3).mp ho_μ3
          have hqN3 := hb_μ3.2.1.2
          refine aw_aload_n hO dX12_sum_47 rfl rfl ?_
          refine aw_iload_n hO dX12_sum_48 rfl rfl ?_
          refine aw_bipush hO dX12_sum_49 rfl (by decide) (by decide) ?_
          refine aw_icmp_ne (tgt := 58) hO dX12_sum_51 rfl rfl ⟨by omega, by omega⟩ (inRlit _) (fun c51 => ?_) (fun c51 => ?_)
          · exact absurd (by assumption) (by omega)
          · refine aw_iconst hO dX12_sum_54 rfl ?_
            refine aw_goto (tgt := 59) hO dX12_sum_55 rfl ?_
            refine aw_iconst hO dX12_sum_59 rfl ?_
            obtain ⟨k_μ3, hk_μ3, hk2_μ3⟩ := hb_μ3.k (by omega)
            refine aw_callVV (as := [vI 2, vI 0]) (st := []) hO dX12_sum_60 rfl (lw_t6 199 rfl rfl) kX12_put (T := TX12) rfl (by decide) rfl (ctM_put μ3 hb_μ3.1.2.2.2.1 hb_μ3.1.2.2.2.2 hk_μ3 hk2_μ3 2 0) (by omega) rfl rfl rfl (Nat.le_of_ble_eq_true rfl) (fun μ6 hq7 => ?_)
            have hb_μ6 := hb_μ3.put hk_μ3 hk2_μ3 2 0
            rw [← hq7] at hb_μ6
            have hf_μ6 : Fr (sS τ) μ μ6 := by rw [hq7]; exact Fr_put hf_μ3 hk2_μ3
            refine aw_aload_n hO dX12_sum_63 rfl rfl ?_
            refine gM_wrong hO dX12_sum_64 rfl ?_
            refine aw_cg hb_μ6.2.1.1 ?_
            refine aw_iconst hO dX12_sum_67 rfl ?_
            refine aw_icmp_ne (tgt := 78) hO dX12_sum_68 rfl rfl (inRn (by omega)) (inRlit _) (fun c68 => ?_) (fun c68 => ?_)
            · refine aw_iconst hO dX12_sum_78 rfl ?_
              refine aw_istore_n (ls' := [some (vR 0), some (vI (-1))]) hO dX12_sum_79 rfl (Nat.le_of_ble_eq_true rfl) rfl rfl ?_
              refine aw_goto (tgt := 21) hO dX12_sum_80 rfl ?_
              refine aw_iload_n hO dX12_sum_21 rfl rfl ?_
              refine aw_bipush hO dX12_sum_22 rfl (by decide) (by decide) ?_
              refine aw_icmp_eq (tgt := 33) hO dX12_sum_24 rfl rfl (inRlit _) (inRlit _) (fun c24 => ?_) (fun c24 => ?_)
              · exact absurd c24 (by omega)
              · refine aw_iload_n hO dX12_sum_27 rfl rfl ?_
                refine aw_bipush hO dX12_sum_28 rfl (by decide) (by decide) ?_
                refine aw_icmp_ne (tgt := 83) hO dX12_sum_30 rfl rfl (inRlit _) (inRlit _) (fun c30 => ?_) (fun c30 => ?_)
                · refine aw_vret hO dX12_sum_83 ?_
                  exact ⟨rfl, hf_μ6, (PO_b (e0.symm.trans (rest_b hsep hx3))).mpr (hb_μ6.mono (by omega))⟩
                · exact absurd c30 (by omega)
            · exact absurd c68 (by omega)
        · obtain ⟨b3, hs3, hp_μ3⟩ := (PO_g hx3).mp ho_μ3
          have hle3 := hp_μ3.le
          obtain ⟨u1, u2, u3, u4, u5⟩ := (hGG (sk g (q + 1)) (sk_le hG (by omega))).2 q3 t3 hx3
          have hsg := sk_ge g (q + 1)
          have hlen : (L ++ t ++ t3).length ≤ 240 := by rw [List.length_append, List.length_append]; omega
          have hll2 : (L ++ t ++ t3 ++ [(2, 0)]).length ≤ 241 := by rw [List.length_append]; simp only [List.length_cons, List.length_nil]; omega
          refine aw_aload_n hO dX12_sum_47 rfl rfl ?_
          refine aw_iload_n hO dX12_sum_48 rfl rfl ?_
          refine aw_bipush hO dX12_sum_49 rfl (by decide) (by decide) ?_
          refine aw_icmp_ne (tgt := 58) hO dX12_sum_51 rfl rfl ⟨by omega, by omega⟩ (inRlit _) (fun c51 => ?_) (fun c51 => ?_)
          · exact absurd (by assumption) (by omega)
          · refine aw_iconst hO dX12_sum_54 rfl ?_
            refine aw_goto (tgt := 59) hO dX12_sum_55 rfl ?_
            refine aw_iconst hO dX12_sum_59 rfl ?_
            refine aw_callVV (as := [vI 2, vI 0]) (st := []) hO dX12_sum_60 rfl (lw_t6 199 rfl rfl) kX12_put (T := TX12) rfl (by decide) rfl (ctM_put μ3 hp_μ3.1.2.2.2.1 hp_μ3.1.2.2.2.2 hp_μ3.co (by omega) 2 0) (by omega) rfl rfl rfl (Nat.le_of_ble_eq_true rfl) (fun μ9 hq10 => ?_)
            have hp_μ9 := hp_μ3.put (by omega) 2 0
            rw [← hq10] at hp_μ9
            have hf_μ9 : Fr (sS τ) μ μ9 := by rw [hq10]; exact Fr_put hf_μ3 (by omega)
            refine aw_aload_n hO dX12_sum_63 rfl rfl ?_
            refine gM_wrong hO dX12_sum_64 rfl ?_
            refine aw_cg hp_μ9.wr ?_
            refine aw_iconst hO dX12_sum_67 rfl ?_
            refine aw_icmp_ne (tgt := 78) hO dX12_sum_68 rfl rfl (inRlit _) (inRlit _) (fun c68 => ?_) (fun c68 => ?_)
            · exact absurd c68 (by omega)
            · refine aw_aload_n hO dX12_sum_71 rfl rfl ?_
              refine aw_callVE (as := []) (st := []) hO dX12_sum_72 rfl (lw_t6 140 rfl rfl) kX12_look (T := TX12) rfl (by decide) rfl (ctM_look μ9 hp_μ9.1 hp_μ9.at hp_μ9.le) (by omega) rfl rfl rfl (Nat.le_of_ble_eq_true rfl) (fun v11 μ12 hq13 => ?_)
              obtain ⟨e_v11, e_μ12⟩ := hq13
              subst e_v11
              have hp_μ12 := hp_μ9.look
              rw [← e_μ12] at hp_μ12
              have hf_μ12 : Fr (sS τ) μ μ12 := by rw [e_μ12]; exact hf_μ9.st sS_at _
              have hr_μ12 := hp_μ9.G.rng (sk g b3)
              refine aw_goto (tgt := 79) hO dX12_sum_75 rfl ?_
              refine aw_istore_n (ls' := [some (vR 0), some (vI (g (sk g b3)))]) hO dX12_sum_79 rfl (Nat.le_of_ble_eq_true rfl) rfl rfl ?_
              refine aw_goto (tgt := 21) hO dX12_sum_80 rfl ?_
              have hp9 := hp_μ12
              rw [hs3, List.append_assoc, List.append_assoc] at hp9
              rw [hs3]
              exact ih q3 (t ++ (t3 ++ [(2, 0)])) μ12 (by omega) u3 (by simp only [List.length_append, List.length_cons, List.length_nil]; omega) ((rest_g hsep hx3).symm.trans e0) hf_μ12 hp9
      · refine aw_iload_n hO dX12_sum_27 rfl rfl ?_
        refine aw_bipush hO dX12_sum_28 rfl (by decide) (by decide) ?_
        refine aw_icmp_ne (tgt := 83) hO dX12_sum_30 rfl rfl ⟨by omega, by omega⟩ (inRlit _) (fun c30 => ?_) (fun c30 => ?_)
        · refine aw_vret hO dX12_sum_83 ?_
          exact ⟨rfl, hf0, (PO_g (e0.symm.trans (rest_n (by unfold sepA; rw [if_neg c24, if_neg c30])))).mpr ⟨q, hsk, hp⟩⟩
        · have hsep : sepA (g q) = some 3 := by unfold sepA; rw [if_neg c24, if_pos c30]
          have hlt := hG.lt (p := q) (by omega)
          refine aw_aload_n hO dX12_sum_33 rfl rfl ?_
          refine aw_dup hO dX12_sum_34 rfl rfl ?_
          refine gM_at hO dX12_sum_35 rfl ?_
          refine aw_cg hp.at ?_
          refine aw_iconst hO dX12_sum_38 rfl ?_
          refine aw_iadd hO dX12_sum_39 rfl ?_
          refine pM_at hO dX12_sum_40 rfl ?_
          refine aw_mm (fun μ14 e_μ14 => ?_)
          have hf_μ14 : Fr (sS τ) μ μ14 := by rw [e_μ14]; exact hf0.st sS_at _
          have hp_μ14 := hp.to (b := (q + 1)) (by omega)
          rw [show (((q + 1) : Nat) : Int) = ((q : Nat) : Int) + 1 from rfl, ← e_μ14] at hp_μ14
          refine aw_aload_n hO dX12_sum_43 rfl rfl ?_
          refine aw_callVV (as := []) (st := []) hO dX12_sum_44 rfl (lw_t6 211 rfl rfl) kX12_term (T := TX12) rfl (by decide) rfl (hI g N τ (q + 1) (L ++ t) μ14 hp_μ14 (by have := sk_ge g (q + 1); rw [List.length_append]; omega)) (by omega) rfl rfl rfl (Nat.le_of_ble_eq_true rfl) (fun μ16 hq17 => ?_)
          obtain ⟨hf0_μ16, ho_μ16⟩ := hq17
          have hf_μ16 : Fr (sS τ) μ μ16 := hf_μ14.tr hf0_μ16
          rcases hx16 : R g (sk g (q + 1)) with ⟨q16, _ | t16⟩
          · have hb_μ16 := (PO_b hx16).mp ho_μ16
            have hqN16 := hb_μ16.2.1.2
            refine aw_aload_n hO dX12_sum_47 rfl rfl ?_
            refine aw_iload_n hO dX12_sum_48 rfl rfl ?_
            refine aw_bipush hO dX12_sum_49 rfl (by decide) (by decide) ?_
            refine aw_icmp_ne (tgt := 58) hO dX12_sum_51 rfl rfl ⟨by omega, by omega⟩ (inRlit _) (fun c51 => ?_) (fun c51 => ?_)
            · refine aw_iconst hO dX12_sum_58 rfl ?_
              refine aw_iconst hO dX12_sum_59 rfl ?_
              obtain ⟨k_μ16, hk_μ16, hk2_μ16⟩ := hb_μ16.k (by omega)
              refine aw_callVV (as := [vI 3, vI 0]) (st := []) hO dX12_sum_60 rfl (lw_t6 199 rfl rfl) kX12_put (T := TX12) rfl (by decide) rfl (ctM_put μ16 hb_μ16.1.2.2.2.1 hb_μ16.1.2.2.2.2 hk_μ16 hk2_μ16 3 0) (by omega) rfl rfl rfl (Nat.le_of_ble_eq_true rfl) (fun μ19 hq20 => ?_)
              have hb_μ19 := hb_μ16.put hk_μ16 hk2_μ16 3 0
              rw [← hq20] at hb_μ19
              have hf_μ19 : Fr (sS τ) μ μ19 := by rw [hq20]; exact Fr_put hf_μ16 hk2_μ16
              refine aw_aload_n hO dX12_sum_63 rfl rfl ?_
              refine gM_wrong hO dX12_sum_64 rfl ?_
              refine aw_cg hb_μ19.2.1.1 ?_
              refine aw_iconst hO dX12_sum_67 rfl ?_
              refine aw_icmp_ne (tgt := 78) hO dX12_sum_68 rfl rfl (inRn (by omega)) (inRlit _) (fun c68 => ?_) (fun c68 => ?_)
              · refine aw_iconst hO dX12_sum_78 rfl ?_
                refine aw_istore_n (ls' := [some (vR 0), some (vI (-1))]) hO dX12_sum_79 rfl (Nat.le_of_ble_eq_true rfl) rfl rfl ?_
                refine aw_goto (tgt := 21) hO dX12_sum_80 rfl ?_
                refine aw_iload_n hO dX12_sum_21 rfl rfl ?_
                refine aw_bipush hO dX12_sum_22 rfl (by decide) (by decide) ?_
                refine aw_icmp_eq (tgt := 33) hO dX12_sum_24 rfl rfl (inRlit _) (inRlit _) (fun c24 => ?_) (fun c24 => ?_)
                · exact absurd c24 (by omega)
                · refine aw_iload_n hO dX12_sum_27 rfl rfl ?_
                  refine aw_bipush hO dX12_sum_28 rfl (by decide) (by decide) ?_
                  refine aw_icmp_ne (tgt := 83) hO dX12_sum_30 rfl rfl (inRlit _) (inRlit _) (fun c30 => ?_) (fun c30 => ?_)
                  · refine aw_vret hO dX12_sum_83 ?_
                    exact ⟨rfl, hf_μ19, (PO_b (e0.symm.trans (rest_b hsep hx16))).mpr (hb_μ19.mono (by omega))⟩
                  · exact absurd c30 (by omega)
              · exact absurd c68 (by omega)
            · exact absurd (by assumption) (by omega)
          · obtain ⟨b16, hs16, hp_μ16⟩ := (PO_g hx16).mp ho_μ16
            have hle16 := hp_μ16.le
            obtain ⟨u1, u2, u3, u4, u5⟩ := (hGG (sk g (q + 1)) (sk_le hG (by omega))).2 q16 t16 hx16
            have hsg := sk_ge g (q + 1)
            have hlen : (L ++ t ++ t16).length ≤ 240 := by rw [List.length_append, List.length_append]; omega
            have hll2 : (L ++ t ++ t16 ++ [(2, 0)]).length ≤ 241 := by rw [List.length_append]; simp only [List.length_cons, List.length_nil]; omega
            refine aw_aload_n hO dX12_sum_47 rfl rfl ?_
            refine aw_iload_n hO dX12_sum_48 rfl rfl ?_
            refine aw_bipush hO dX12_sum_49 rfl (by decide) (by decide) ?_
            refine aw_icmp_ne (tgt := 58) hO dX12_sum_51 rfl rfl ⟨by omega, by omega⟩ (inRlit _) (fun c51 => ?_) (fun c51 => ?_)
            · refine aw_iconst hO dX12_sum_58 rfl ?_
              refine aw_iconst hO dX12_sum_59 rfl ?_
              refine aw_callVV (as := [vI 3, vI 0]) (st := []) hO dX12_sum_60 rfl (lw_t6 199 rfl rfl) kX12_put (T := TX12) rfl (by decide) rfl (ctM_put μ16 hp_μ16.1.2.2.2.1 hp_μ16.1.2.2.2.2 hp_μ16.co (by omega) 3 0) (by omega) rfl rfl rfl (Nat.le_of_ble_eq_true rfl) (fun μ22 hq23 => ?_)
              have hp_μ22 := hp_μ16.put (by omega) 3 0
              rw [← hq23] at hp_μ22
              have hf_μ22 : Fr (sS τ) μ μ22 := by rw [hq23]; exact Fr_put hf_μ16 (by omega)
              refine aw_aload_n hO dX12_sum_63 rfl rfl ?_
              refine gM_wrong hO dX12_sum_64 rfl ?_
              refine aw_cg hp_μ22.wr ?_
              refine aw_iconst hO dX12_sum_67 rfl ?_
              refine aw_icmp_ne (tgt := 78) hO dX12_sum_68 rfl rfl (inRlit _) (inRlit _) (fun c68 => ?_) (fun c68 => ?_)
              · exact absurd c68 (by omega)
              · refine aw_aload_n hO dX12_sum_71 rfl rfl ?_
                refine aw_callVE (as := []) (st := []) hO dX12_sum_72 rfl (lw_t6 140 rfl rfl) kX12_look (T := TX12) rfl (by decide) rfl (ctM_look μ22 hp_μ22.1 hp_μ22.at hp_μ22.le) (by omega) rfl rfl rfl (Nat.le_of_ble_eq_true rfl) (fun v24 μ25 hq26 => ?_)
                obtain ⟨e_v24, e_μ25⟩ := hq26
                subst e_v24
                have hp_μ25 := hp_μ22.look
                rw [← e_μ25] at hp_μ25
                have hf_μ25 : Fr (sS τ) μ μ25 := by rw [e_μ25]; exact hf_μ22.st sS_at _
                have hr_μ25 := hp_μ22.G.rng (sk g b16)
                refine aw_goto (tgt := 79) hO dX12_sum_75 rfl ?_
                refine aw_istore_n (ls' := [some (vR 0), some (vI (g (sk g b16)))]) hO dX12_sum_79 rfl (Nat.le_of_ble_eq_true rfl) rfl rfl ?_
                refine aw_goto (tgt := 21) hO dX12_sum_80 rfl ?_
                have hp9 := hp_μ25
                rw [hs16, List.append_assoc, List.append_assoc] at hp9
                rw [hs16]
                exact ih q16 (t ++ (t16 ++ [(3, 0)])) μ25 (by omega) u3 (by simp only [List.length_append, List.length_cons, List.length_nil]; omega) ((rest_g hsep hx16).symm.trans e0) hf_μ25 hp9
            · exact absurd (by assumption) (by omega)
  refine aw_aload_n hO dX12_sum_0 rfl rfl ?_
  refine aw_callVV (as := []) (st := []) hO dX12_sum_1 rfl (lw_t6 211 rfl rfl) kX12_term (T := TX12) rfl (by decide) rfl (hI g N τ a L μ h hL) (by omega) rfl rfl rfl (Nat.le_of_ble_eq_true rfl) (fun μ28 hq29 => ?_)
  obtain ⟨hf0_μ28, ho_μ28⟩ := hq29
  have hf_μ28 : Fr (sS τ) μ μ28 := Fr.rf.tr hf0_μ28
  rcases hx28 : R g (sk g a) with ⟨q28, _ | t28⟩
  · have hb_μ28 := (PO_b hx28).mp ho_μ28
    have hqN28 := hb_μ28.2.1.2
    refine aw_aload_n hO dX12_sum_4 rfl rfl ?_
    refine gM_wrong hO dX12_sum_5 rfl ?_
    refine aw_cg hb_μ28.2.1.1 ?_
    refine aw_iconst hO dX12_sum_8 rfl ?_
    refine aw_icmp_ne (tgt := 19) hO dX12_sum_9 rfl rfl (inRn (by omega)) (inRlit _) (fun c9 => ?_) (fun c9 => ?_)
    · refine aw_iconst hO dX12_sum_19 rfl ?_
      refine aw_istore_n (ls' := [some (vR 0), some (vI (-1))]) hO dX12_sum_20 rfl (Nat.le_of_ble_eq_true rfl) rfl rfl ?_
      refine aw_iload_n hO dX12_sum_21 rfl rfl ?_
      refine aw_bipush hO dX12_sum_22 rfl (by decide) (by decide) ?_
      refine aw_icmp_eq (tgt := 33) hO dX12_sum_24 rfl rfl (inRlit _) (inRlit _) (fun c24 => ?_) (fun c24 => ?_)
      · exact absurd c24 (by omega)
      · refine aw_iload_n hO dX12_sum_27 rfl rfl ?_
        refine aw_bipush hO dX12_sum_28 rfl (by decide) (by decide) ?_
        refine aw_icmp_ne (tgt := 83) hO dX12_sum_30 rfl rfl (inRlit _) (inRlit _) (fun c30 => ?_) (fun c30 => ?_)
        · refine aw_vret hO dX12_sum_83 ?_
          exact ⟨rfl, hf_μ28, (PO_b (chn_b hx28)).mpr (hb_μ28.mono (by omega))⟩
        · exact absurd c30 (by omega)
    · exact absurd c9 (by omega)
  · obtain ⟨b28, hs28, hp_μ28⟩ := (PO_g hx28).mp ho_μ28
    have hle28 := hp_μ28.le
    obtain ⟨u1, u2, u3, u4, u5⟩ := (hGG (sk g a) hpN).2 q28 t28 hx28
    refine aw_aload_n hO dX12_sum_4 rfl rfl ?_
    refine gM_wrong hO dX12_sum_5 rfl ?_
    refine aw_cg hp_μ28.wr ?_
    refine aw_iconst hO dX12_sum_8 rfl ?_
    refine aw_icmp_ne (tgt := 19) hO dX12_sum_9 rfl rfl (inRlit _) (inRlit _) (fun c9 => ?_) (fun c9 => ?_)
    · exact absurd c9 (by omega)
    · refine aw_aload_n hO dX12_sum_12 rfl rfl ?_
      refine aw_callVE (as := []) (st := []) hO dX12_sum_13 rfl (lw_t6 140 rfl rfl) kX12_look (T := TX12) rfl (by decide) rfl (ctM_look μ28 hp_μ28.1 hp_μ28.at hp_μ28.le) (by omega) rfl rfl rfl (Nat.le_of_ble_eq_true rfl) (fun v30 μ31 hq32 => ?_)
      obtain ⟨e_v30, e_μ31⟩ := hq32
      subst e_v30
      have hp_μ31 := hp_μ28.look
      rw [← e_μ31] at hp_μ31
      have hf_μ31 : Fr (sS τ) μ μ31 := by rw [e_μ31]; exact hf_μ28.st sS_at _
      have hr_μ31 := hp_μ28.G.rng (sk g b28)
      refine aw_goto (tgt := 20) hO dX12_sum_16 rfl ?_
      refine aw_istore_n (ls' := [some (vR 0), some (vI (g (sk g b28)))]) hO dX12_sum_20 rfl (Nat.le_of_ble_eq_true rfl) rfl rfl ?_
      have hp9 := hp_μ31
      rw [hs28] at hp9
      rw [hs28]
      exact lp 241 q28 t28 μ31 (by omega) u3 (by omega) (chn_g hx28).symm hf_μ31 hp9

theorem GG_atom (r : Nat) : GG (fun g => pAtom g r) := fun _ _ hG => ⟨_, pAtom_G hG r⟩
theorem GG_term (r : Nat) : GG (fun g => pTerm g r) := fun _ _ hG => ⟨_, pTerm_G hG r⟩
theorem GG_sum (r : Nat) : GG (fun g => pSum g r) := fun _ _ hG => ⟨_, pSum_G hG r⟩
theorem ctM_sumA {r d : Nat} (hr : r ≤ 6) (h : CP (3 + 3 * r) yX12_atom cX12_atom 2 d (250 + 6 * r) (fun g => pAtom g r)) : CP (5 + 3 * r) yX12_sum cX12_sum 2 d (252 + 6 * r) (fun g => pSum g r) := by
  have h1 := ctM_term0 (by omega) (by omega) (by omega) h (GG_atom r)
  have h2 := ctM_sum0 (R := fun g => pTerm g r) (by omega) (by omega) (by omega) h1 (GG_term r)
  rw [show 5 + 3 * r = 3 + 3 * r + 1 + 1 by omega, show 252 + 6 * r = 250 + 6 * r + 1 + 1 by omega]
  exact h2
theorem ctM_atom : ∀ (r d : Nat), d + r = 6 → CP (3 + 3 * r) yX12_atom cX12_atom 2 d (250 + 6 * r) (fun g => pAtom g r)
  | 0, d, hd => ctM_atom0 (S := fun _ q => (q, none)) (B' := 0) (r := 0) hd (by omega) (by omega) (by omega) (by omega) (fun e => absurd rfl e)
  | r + 1, d, hd => ctM_atom0 (S := fun g => pSum g r) (B' := 252 + 6 * r) (r := r + 1) hd (by omega) (by omega) (by omega) (by omega) (fun _ => ⟨by
      have := ctM_sumA (by omega) (ctM_atom r (d + 1) (by omega))
      rw [show 3 + 3 * (r + 1) - 1 = 5 + 3 * r by omega]
      exact this, GG_sum r⟩)
theorem ctM_sum (r d : Nat) (hd : d + r = 6) : CP (5 + 3 * r) yX12_sum cX12_sum 2 d (252 + 6 * r) (fun g => pSum g r) := ctM_sumA (by omega) (ctM_atom r d hd)
