/-! ## the class reads a law (6) -/
def lS (k i : Nat) : Prop := dS k i ∨ k = 3
def RCz (r : Int) : Prop := r = 0 ∨ r = 1
theorem RC.z {g : Nat → Int} {N : Nat} {μ m : Mm} {l : List Cl} {x : PC1} {r : Int} (h : RC g N μ l x r m) : r = 0 ∨ r = 1 := by
  rcases x with ⟨q, _ | c⟩
  · exact Or.inl h.1
  · exact Or.inr h.1
theorem RC.no {g : Nat → Int} {N : Nat} {μ m : Mm} {l : List Cl} {x : PC1} {r : Int} (h : RC g N μ l x r m) (hr : r = 0) : ∃ q, x = (q, none) ∧ LB g N μ m q := by
  rcases x with ⟨q, _ | c⟩
  · exact ⟨q, rfl, h.2⟩
  · exact absurd (h.1.symm.trans hr) (by decide)
theorem RC.yes {g : Nat → Int} {N : Nat} {μ m : Mm} {l : List Cl} {x : PC1} {r : Int} (h : RC g N μ l x r m) (hr : r ≠ 0) : ∃ q c, x = (q, some c) ∧ LG g N μ m q (cmpL 0 (l ++ [c])) ∧ (cmpL 0 (l ++ [c])).length ≤ q := by
  rcases x with ⟨q, _ | c⟩
  · exact absurd h.1 hr
  · exact ⟨q, c, rfl, h.2⟩
theorem WC.app {l : List Cl} {c : Cl} (hl : ∀ c ∈ l, WC c) (hc : WC c) : ∀ c' ∈ l ++ [c], WC c' := fun c' hc' => by
  rcases List.mem_append.mp hc' with h1 | h1
  · exact hl c' h1
  · rw [List.mem_singleton.mp h1]; exact hc
theorem dX5_read_0 : decode cX5_read 0 = .ok (.aload_n 0, 1) := by decide +kernel
theorem dX5_read_1 : decode cX5_read 1 = .ok (.getfield 12, 3) := by decide +kernel
theorem dX5_read_4 : decode cX5_read 4 = .ok (.iconst 0, 1) := by decide +kernel
theorem dX5_read_5 : decode cX5_read 5 = .ok (.putfield 22, 3) := by decide +kernel
theorem dX5_read_8 : decode cX5_read 8 = .ok (.aload_n 0, 1) := by decide +kernel
theorem dX5_read_9 : decode cX5_read 9 = .ok (.getfield 18, 3) := by decide +kernel
theorem dX5_read_12 : decode cX5_read 12 = .ok (.invokevirtual 26, 3) := by decide +kernel
theorem dX5_read_15 : decode cX5_read 15 = .ok (.iconst 1, 1) := by decide +kernel
theorem dX5_read_16 : decode cX5_read 16 = .ok (.istore_n 1, 1) := by decide +kernel
theorem dX5_read_17 : decode cX5_read 17 = .ok (.iconst 0, 1) := by decide +kernel
theorem dX5_read_18 : decode cX5_read 18 = .ok (.istore_n 2, 1) := by decide +kernel
theorem dX5_read_19 : decode cX5_read 19 = .ok (.iload_n 1, 1) := by decide +kernel
theorem dX5_read_20 : decode cX5_read 20 = .ok (.ifCond .eq 41, 3) := by decide +kernel
theorem dX5_read_23 : decode cX5_read 23 = .ok (.iload_n 2, 1) := by decide +kernel
theorem dX5_read_24 : decode cX5_read 24 = .ok (.sipush 240, 3) := by decide +kernel
theorem dX5_read_27 : decode cX5_read 27 = .ok (.if_icmp .ge 34, 3) := by decide +kernel
theorem dX5_read_30 : decode cX5_read 30 = .ok (.aload_n 0, 1) := by decide +kernel
theorem dX5_read_31 : decode cX5_read 31 = .ok (.invokevirtual 31, 3) := by decide +kernel
theorem dX5_read_34 : decode cX5_read 34 = .ok (.ifCond .ne 11, 3) := by decide +kernel
theorem dX5_read_37 : decode cX5_read 37 = .ok (.aload_n 0, 1) := by decide +kernel
theorem dX5_read_38 : decode cX5_read 38 = .ok (.getfield 18, 3) := by decide +kernel
theorem dX5_read_41 : decode cX5_read 41 = .ok (.getfield 35, 3) := by decide +kernel
theorem dX5_read_44 : decode cX5_read 44 = .ok (.ireturn, 1) := by decide +kernel
theorem dX5_read_45 : decode cX5_read 45 = .ok (.aload_n 0, 1) := by decide +kernel
theorem dX5_read_46 : decode cX5_read 46 = .ok (.getfield 18, 3) := by decide +kernel
theorem dX5_read_49 : decode cX5_read 49 = .ok (.bipush 59, 2) := by decide +kernel
theorem dX5_read_51 : decode cX5_read 51 = .ok (.invokevirtual 38, 3) := by decide +kernel
theorem dX5_read_54 : decode cX5_read 54 = .ok (.istore_n 1, 1) := by decide +kernel
theorem dX5_read_55 : decode cX5_read 55 = .ok (.iinc 2 1, 3) := by decide +kernel
theorem dX5_read_58 : decode cX5_read 58 = .ok (.goto (-39), 3) := by decide +kernel
theorem dX5_read_61 : decode cX5_read 61 = .ok (.aload_n 0, 1) := by decide +kernel
theorem dX5_read_62 : decode cX5_read 62 = .ok (.getfield 18, 3) := by decide +kernel
theorem dX5_read_65 : decode cX5_read 65 = .ok (.invokevirtual 42, 3) := by decide +kernel
theorem dX5_read_68 : decode cX5_read 68 = .ok (.iconst (-1), 1) := by decide +kernel
theorem dX5_read_69 : decode cX5_read 69 = .ok (.if_icmp .ne 7, 3) := by decide +kernel
theorem dX5_read_72 : decode cX5_read 72 = .ok (.iconst (-1), 1) := by decide +kernel
theorem dX5_read_73 : decode cX5_read 73 = .ok (.goto 10, 3) := by decide +kernel
theorem dX5_read_76 : decode cX5_read 76 = .ok (.aload_n 0, 1) := by decide +kernel
theorem dX5_read_77 : decode cX5_read 77 = .ok (.getfield 18, 3) := by decide +kernel
theorem dX5_read_80 : decode cX5_read 80 = .ok (.getfield 35, 3) := by decide +kernel
theorem dX5_read_83 : decode cX5_read 83 = .ok (.ireturn, 1) := by decide +kernel
set_option maxRecDepth 100000 in
theorem gC_X5_35_1 {Q : Option AV → Mm → Prop} {K : KT} {cc : ByteArray} {nL d : Nat} {ret : Option FieldType} {pc n : Nat} {ls : List (Option AV)} {st : List AV} {μ : Mm} (hO : KOk PC Q K cc RX5 nL d ret) (hd : decode cc pc = .ok (.getfield 35, 3)) (hn : pc + 3 = n) (kk : AW K n ls (vI (μ.1 1 3) :: st) μ) : AW K pc ls (vR 1 :: st) μ := aw_getN (f := 3) hO hd hn okX8 (by decide) (lw_t1n 46 rfl rfl) (by decide) rfl rfl rfl kk
set_option maxRecDepth 100000 in
theorem pC_X5_22_9 {Q : Option AV → Mm → Prop} {K : KT} {cc : ByteArray} {nL d : Nat} {ret : Option FieldType} {pc n : Nat} {ls : List (Option AV)} {st : List AV} {μ : Mm} {a : Int} (hO : KOk PC Q K cc RX5 nL d ret) (hd : decode cc pc = .ok (.putfield 22, 3)) (hn : pc + 3 = n) (kk : AW K n ls st (mst μ 9 2 a)) : AW K pc ls (vI a :: vR 9 :: st) μ := aw_putN (f := 2) hO hd hn okX4 tyX4_ok nmX4 (by decide) (lw_t1n 123 rfl rfl) rfl rfl rfl (by decide) rfl rfl kk
set_option maxHeartbeats 4000000 in
set_option maxRecDepth 100000 in
theorem cT_readLaw {μ : Mm} {g : Nat → Int} {N : Nat} (h : TC g N μ) : CtE PC 21 yX5_read cX5_read 3 (some .int) [vR 8] μ (fun r m => Fr lS μ m ∧ r = faultV (pLaw g) ∧ ∀ q l, pLaw g = (q, some l) → Dr m (cmpL 0 l) ∧ (cmpL 0 l).length ≤ 240 ∧ ∀ c ∈ l, WC c) := by
  refine ct_intro [some (vR 8), none, none] RX5 (by decide) rfl XCo rfl (Nat.le_of_ble_eq_true rfl) (fun K hO => ?_)
  have hG := h.1
  have hN := hG.1
  have k61 : ∀ (q f i : Nat) (l : List Cl) (b m : Mm), Fr lS μ b → LG g N b m q (cmpL 0 l) → q ≤ N → g q ≠ 59 → (cmpL 0 l).length ≤ q → (∀ c ∈ l, WC c) → aftC g f q l = pLaw g → AW K 61 [some (vR 8), some (vI 0), some (vI ((i : Nat) : Int))] [] m := by
    intro q f i l b m hb hL hq h59 hlen hW hA
    have hgr := hG.rng q
    unfold aftC at hA
    rw [if_neg h59] at hA
    have hF : Fr lS μ m := hb.tr (hL.1.mono (fun _ _ e => Or.inl e))
    have hp := hL.2.2.1
    refine aw_aload_n hO dX5_read_61 rfl rfl ?_
    refine gC_X5_18_8 hO dX5_read_62 rfl ?_
    refine aw_callVI (as := []) (st := []) hO dX5_read_65 rfl (lw_t3 17 rfl rfl) kX8_sign (T := TX8) rfl (by decide) rfl (cT_sign hL.2.1.1 hp hq) (by decide) rfl rfl rfl (Nat.le_of_ble_eq_true rfl) ?_
    refine aw_iconst hO dX5_read_68 rfl ?_
    refine aw_icmp_ne (tgt := 76) hO dX5_read_69 rfl rfl ⟨by omega, by omega⟩ (inRlit _) (fun c69 => ?_) (fun c69 => ?_)
    · refine aw_aload_n hO dX5_read_76 rfl rfl ?_
      refine gC_X5_18_8 hO dX5_read_77 rfl ?_
      refine gC_X5_35_1 hO dX5_read_80 rfl ?_
      refine aw_cg hp ?_
      refine aw_iret hO dX5_read_83 ?_
      rw [if_neg c69] at hA
      exact ⟨_, rfl, hF, (faultV_n hA.symm).symm, fun q2 s2 e => (by rw [← hA] at e; simp at e)⟩
    · refine aw_iconst hO dX5_read_72 rfl ?_
      refine aw_goto (tgt := 83) hO dX5_read_73 rfl ?_
      refine aw_iret hO dX5_read_83 ?_
      rw [if_pos c69] at hA
      exact ⟨_, rfl, hF, (faultV_s hA.symm).symm, fun q2 s2 e => (by rw [← hA] at e; simp only [Prod.mk.injEq, Option.some.injEq] at e; obtain ⟨rfl, rfl⟩ := e; exact ⟨hL.2.2.2, by omega, hW⟩)⟩
  have lp : ∀ (f p i : Nat) (l : List Cl) (b m : Mm), 2 * i ≤ p → p ≤ N → N < p + f → sk g p = p → Fr lS μ b → LG g N b m p (cmpL 0 l) → (cmpL 0 l).length ≤ p → (∀ c ∈ l, WC c) → pLs g f p l = pLaw g → AW K 19 [some (vR 8), some (vI 1), some (vI ((i : Nat) : Int))] [] m := by
    intro f
    induction f with
    | zero => intro p i l b m _ h1 h2; omega
    | succ f ih =>
      intro p i l b m hip hpN hf hsk hb hL hlen hW hD
      have hcG := pCl_G hG hpN
      refine aw_iload_n hO dX5_read_19 rfl rfl ?_
      refine aw_if_eq (tgt := 61) hO dX5_read_20 rfl rfl (inRlit _) (fun c20 => ?_) (fun c20 => ?_)
      · exact absurd c20 (by omega)
      · refine aw_iload_n hO dX5_read_23 rfl rfl ?_
        refine aw_sipush hO dX5_read_24 rfl (by decide) (by decide) ?_
        refine aw_icmp_ge (tgt := 61) hO dX5_read_27 rfl rfl (inRn (by omega)) (inRlit _) (fun c27 => ?_) (fun c27 => ?_)
        · exact absurd c27 (by omega)
        · refine aw_aload_n hO dX5_read_30 rfl rfl ?_
          refine aw_callVE (as := []) (st := []) hO dX5_read_31 rfl (lw_t3 12 rfl rfl) kX5_readClause (T := TX5) rfl (by decide) rfl (cT_readClauseL hL.2.1 hL.2.2.1 hpN hsk hL.2.2.2 hlen) (by decide) rfl rfl rfl (Nat.le_of_ble_eq_true rfl) (fun v1 μ2 hq3 => ?_)
          have hRs := hq3
          have hvz := hRs.z
          refine aw_if_ne (tgt := 45) hO dX5_read_34 rfl rfl ⟨by omega, by omega⟩ (fun c34 => ?_) (fun c34 => ?_)
          · obtain ⟨cq, c2, hcs, hL2, hlen2⟩ := hRs.yes c34
            have hcp := hL2.2.2.1
            obtain ⟨hc1, hc2, hc3, hc4, hWc⟩ := hcG.2 cq c2 hcs
            rw [pLs_g hcs] at hD
            have hgr := hG.rng cq
            have hb2 : Fr lS μ m := hb.tr (hL.1.mono (fun _ _ e => Or.inl e))
            refine aw_aload_n hO dX5_read_45 rfl rfl ?_
            refine gC_X5_18_8 hO dX5_read_46 rfl ?_
            refine aw_bipush hO dX5_read_49 rfl (by decide) (by decide) ?_
            refine aw_callVE (as := [vI 59]) (st := []) hO dX5_read_51 rfl (lw_t3 16 rfl rfl) kX8_takes (T := TX8) rfl (by decide) rfl (cT_takes hL2.2.1 hcp hc2 (c := 59) (by omega) (by omega)) (by decide) rfl rfl rfl (Nat.le_of_ble_eq_true rfl) (fun v4 μ5 hq6 => ?_)
            obtain ⟨e_v4, e_μ5⟩ := hq6
            refine aw_istore_n (ls' := [some (vR 8), some (vI v4), some (vI ((i : Nat) : Int))]) hO dX5_read_54 rfl (Nat.le_of_ble_eq_true rfl) rfl rfl ?_
            refine aw_iinc (ls' := [some (vR 8), some (vI v4), some (vI (((i : Nat) : Int) + 1))]) hO dX5_read_55 rfl rfl rfl rfl ?_
            refine aw_lsq (ls' := [some (vR 8), some (vI v4), some (vI (((i + 1) : Nat) : Int))]) rfl ?_
            refine aw_goto (tgt := 19) hO dX5_read_58 rfl ?_
            by_cases h59 : g cq = 59
            · rw [if_pos h59] at e_v4 e_μ5
              subst e_v4
              refine aw_lsq (ls' := [some (vR 8), some (vI 1), some (vI ((i + 1 : Nat) : Int))]) rfl ?_
              have hlt := hG.lt (p := cq) (by omega)
              have hs1 := sk_ge g (cq + 1)
              have hs2 := sk_le hG (p := cq + 1) (by omega)
              exact ih (sk g (cq + 1)) (i + 1) (l ++ [c2]) m μ5 (by omega) hs2 (by omega) (sk_sk hG _) hb2 (by rw [e_μ5]; exact hL2.tk) (by omega) (WC.app hW hWc) (by unfold aftC at hD; rw [if_pos h59] at hD; exact hD)
            · rw [if_neg h59] at e_v4 e_μ5
              subst e_v4
              refine aw_meq e_μ5 ?_
              refine aw_lsq (ls' := [some (vR 8), some (vI 0), some (vI (((i + 1) : Nat) : Int))]) rfl ?_
              refine aw_iload_n hO dX5_read_19 rfl rfl ?_
              refine aw_if_eq (tgt := 61) hO dX5_read_20 rfl rfl (inRlit _) (fun c20 => ?_) (fun c20 => ?_)
              · exact k61 cq f (i + 1) (l ++ [c2]) m μ2 hb2 hL2 hc2 h59 hlen2 (WC.app hW hWc) hD
              · exact absurd c20 (by omega)
          · obtain ⟨cq, hcn, hB⟩ := hRs.no c34
            have hcp := hB.2.2.1
            have hF1 : Fr lS μ μ2 := (hb.tr (hL.1.mono (fun _ _ e => Or.inl e))).tr (hB.1.mono (fun _ _ e => Or.inl e))
            refine aw_aload_n hO dX5_read_37 rfl rfl ?_
            refine gC_X5_18_8 hO dX5_read_38 rfl ?_
            refine gC_X5_35_1 hO dX5_read_41 rfl ?_
            refine aw_cg hcp ?_
            refine aw_iret hO dX5_read_44 ?_
            rw [pLs_b hcn] at hD
            exact ⟨_, rfl, hF1, (faultV_n hD.symm).symm, fun q2 s2 e => (by rw [← hD] at e; simp at e)⟩
  refine aw_aload_n hO dX5_read_0 rfl rfl ?_
  refine gC_X5_12_8 hO dX5_read_1 rfl ?_
  refine aw_iconst hO dX5_read_4 rfl ?_
  refine pC_X5_22_9 hO dX5_read_5 rfl ?_
  refine aw_mm (fun μ7 e_μ7 => ?_)
  have hT2 : TC g N μ7 := h.fr (by rw [e_μ7, mst_nk (by decide)]) (by rw [e_μ7]; exact funext fun _ => mst_nk (by decide))
  refine aw_aload_n hO dX5_read_8 rfl rfl ?_
  refine gC_X5_18_8 hO dX5_read_9 rfl ?_
  refine aw_callVV (as := []) (st := []) hO dX5_read_12 rfl (lw_t3 11 rfl rfl) kX8_rewind (T := TX8) rfl (by decide) rfl (cT_rewind hT2) (by decide) rfl rfl rfl (Nat.le_of_ble_eq_true rfl) (fun μ9 hq10 => ?_)
  obtain ⟨hFr, hQt3, hp3⟩ := hq10
  refine aw_iconst hO dX5_read_15 rfl ?_
  refine aw_istore_n (ls' := [some (vR 8), some (vI 1), none]) hO dX5_read_16 rfl (Nat.le_of_ble_eq_true rfl) rfl rfl ?_
  refine aw_iconst hO dX5_read_17 rfl ?_
  refine aw_istore_n (ls' := [some (vR 8), some (vI 1), some (vI 0)]) hO dX5_read_18 rfl (Nat.le_of_ble_eq_true rfl) rfl rfl ?_
  refine aw_lsq (ls' := [some (vR 8), some (vI 1), some (vI ((0 : Nat) : Int))]) rfl ?_
  exact lp 241 (sk g 0) 0 [] μ9 μ9 (by omega) (sk_le hG (Nat.zero_le _)) (by omega) (sk_sk hG _) ((show Fr lS μ μ7 by rw [e_μ7]; exact Fr.rf.st (Or.inl (Or.inr (Or.inl ⟨rfl, rfl⟩))) _).tr (hFr.mono (fun k i e => e.elim Or.inr (fun e => Or.inl (Or.inl ⟨e.1, Or.inl e.2⟩))))) ⟨Fr.rf, hQt3, hp3, ⟨by rw [hFr.1 9 2 (by omega), e_μ7, mst_eq]; rfl, trivial⟩⟩ (Nat.zero_le _) (fun c hc => absurd hc (List.not_mem_nil)) rfl
