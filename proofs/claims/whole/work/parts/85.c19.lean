/-! ## the class reads a town (3) -/
def rS (k i : Nat) : Prop := tS k i ∨ k = 3 ∨ (k = 5 ∧ (i = 1 ∨ i = 2)) ∨ k = 6 ∨ k = 7
theorem cS_r {k i : Nat} (h : cS k i) : rS k i := by
  rcases h with h | h | h
  · exact Or.inl h
  · exact Or.inr (Or.inr (Or.inr (Or.inl h)))
  · exact Or.inr (Or.inr (Or.inr (Or.inr h)))
theorem TwOk.cn {s : Tw} (h : TwOk s) (k : Nat) : cnK s k ≤ 6 := by
  have h1 := h.2.1.1
  have h2 := h.2.2.1
  unfold cnK
  split
  · split <;> omega
  · split <;> omega
theorem dX10_read_0 : decode cX10_read 0 = .ok (.aload_n 0, 1) := by decide +kernel
theorem dX10_read_1 : decode cX10_read 1 = .ok (.getfield 18, 3) := by decide +kernel
theorem dX10_read_4 : decode cX10_read 4 = .ok (.iconst 0, 1) := by decide +kernel
theorem dX10_read_5 : decode cX10_read 5 = .ok (.invokestatic 26, 3) := by decide +kernel
theorem dX10_read_8 : decode cX10_read 8 = .ok (.aload_n 0, 1) := by decide +kernel
theorem dX10_read_9 : decode cX10_read 9 = .ok (.iconst 0, 1) := by decide +kernel
theorem dX10_read_10 : decode cX10_read 10 = .ok (.iconst 0, 1) := by decide +kernel
theorem dX10_read_11 : decode cX10_read 11 = .ok (.invokevirtual 32, 3) := by decide +kernel
theorem dX10_read_14 : decode cX10_read 14 = .ok (.aload_n 0, 1) := by decide +kernel
theorem dX10_read_15 : decode cX10_read 15 = .ok (.getfield 22, 3) := by decide +kernel
theorem dX10_read_18 : decode cX10_read 18 = .ok (.invokevirtual 36, 3) := by decide +kernel
theorem dX10_read_21 : decode cX10_read 21 = .ok (.iconst 1, 1) := by decide +kernel
theorem dX10_read_22 : decode cX10_read 22 = .ok (.istore_n 1, 1) := by decide +kernel
theorem dX10_read_23 : decode cX10_read 23 = .ok (.iconst 0, 1) := by decide +kernel
theorem dX10_read_24 : decode cX10_read 24 = .ok (.istore_n 2, 1) := by decide +kernel
theorem dX10_read_25 : decode cX10_read 25 = .ok (.iload_n 1, 1) := by decide +kernel
theorem dX10_read_26 : decode cX10_read 26 = .ok (.ifCond .eq 41, 3) := by decide +kernel
theorem dX10_read_29 : decode cX10_read 29 = .ok (.iload_n 2, 1) := by decide +kernel
theorem dX10_read_30 : decode cX10_read 30 = .ok (.sipush 240, 3) := by decide +kernel
theorem dX10_read_33 : decode cX10_read 33 = .ok (.if_icmp .ge 34, 3) := by decide +kernel
theorem dX10_read_36 : decode cX10_read 36 = .ok (.aload_n 0, 1) := by decide +kernel
theorem dX10_read_37 : decode cX10_read 37 = .ok (.invokevirtual 41, 3) := by decide +kernel
theorem dX10_read_40 : decode cX10_read 40 = .ok (.ifCond .ne 11, 3) := by decide +kernel
theorem dX10_read_43 : decode cX10_read 43 = .ok (.aload_n 0, 1) := by decide +kernel
theorem dX10_read_44 : decode cX10_read 44 = .ok (.getfield 22, 3) := by decide +kernel
theorem dX10_read_47 : decode cX10_read 47 = .ok (.getfield 45, 3) := by decide +kernel
theorem dX10_read_50 : decode cX10_read 50 = .ok (.ireturn, 1) := by decide +kernel
theorem dX10_read_51 : decode cX10_read 51 = .ok (.aload_n 0, 1) := by decide +kernel
theorem dX10_read_52 : decode cX10_read 52 = .ok (.getfield 22, 3) := by decide +kernel
theorem dX10_read_55 : decode cX10_read 55 = .ok (.bipush 59, 2) := by decide +kernel
theorem dX10_read_57 : decode cX10_read 57 = .ok (.invokevirtual 49, 3) := by decide +kernel
theorem dX10_read_60 : decode cX10_read 60 = .ok (.istore_n 1, 1) := by decide +kernel
theorem dX10_read_61 : decode cX10_read 61 = .ok (.iinc 2 1, 3) := by decide +kernel
theorem dX10_read_64 : decode cX10_read 64 = .ok (.goto (-39), 3) := by decide +kernel
theorem dX10_read_67 : decode cX10_read 67 = .ok (.aload_n 0, 1) := by decide +kernel
theorem dX10_read_68 : decode cX10_read 68 = .ok (.getfield 12, 3) := by decide +kernel
theorem dX10_read_71 : decode cX10_read 71 = .ok (.aload_n 0, 1) := by decide +kernel
theorem dX10_read_72 : decode cX10_read 72 = .ok (.getfield 18, 3) := by decide +kernel
theorem dX10_read_75 : decode cX10_read 75 = .ok (.iconst 1, 1) := by decide +kernel
theorem dX10_read_76 : decode cX10_read 76 = .ok (.iaload, 1) := by decide +kernel
theorem dX10_read_77 : decode cX10_read 77 = .ok (.putfield 53, 3) := by decide +kernel
theorem dX10_read_80 : decode cX10_read 80 = .ok (.aload_n 0, 1) := by decide +kernel
theorem dX10_read_81 : decode cX10_read 81 = .ok (.getfield 12, 3) := by decide +kernel
theorem dX10_read_84 : decode cX10_read 84 = .ok (.aload_n 0, 1) := by decide +kernel
theorem dX10_read_85 : decode cX10_read 85 = .ok (.getfield 18, 3) := by decide +kernel
theorem dX10_read_88 : decode cX10_read 88 = .ok (.iconst 2, 1) := by decide +kernel
theorem dX10_read_89 : decode cX10_read 89 = .ok (.iaload, 1) := by decide +kernel
theorem dX10_read_90 : decode cX10_read 90 = .ok (.putfield 56, 3) := by decide +kernel
theorem dX10_read_93 : decode cX10_read 93 = .ok (.aload_n 0, 1) := by decide +kernel
theorem dX10_read_94 : decode cX10_read 94 = .ok (.getfield 22, 3) := by decide +kernel
theorem dX10_read_97 : decode cX10_read 97 = .ok (.invokevirtual 59, 3) := by decide +kernel
theorem dX10_read_100 : decode cX10_read 100 = .ok (.iconst (-1), 1) := by decide +kernel
theorem dX10_read_101 : decode cX10_read 101 = .ok (.if_icmp .ne 17, 3) := by decide +kernel
theorem dX10_read_104 : decode cX10_read 104 = .ok (.aload_n 0, 1) := by decide +kernel
theorem dX10_read_105 : decode cX10_read 105 = .ok (.getfield 18, 3) := by decide +kernel
theorem dX10_read_108 : decode cX10_read 108 = .ok (.iconst 1, 1) := by decide +kernel
theorem dX10_read_109 : decode cX10_read 109 = .ok (.iaload, 1) := by decide +kernel
theorem dX10_read_110 : decode cX10_read 110 = .ok (.iconst 2, 1) := by decide +kernel
theorem dX10_read_111 : decode cX10_read 111 = .ok (.if_icmp .lt 7, 3) := by decide +kernel
theorem dX10_read_114 : decode cX10_read 114 = .ok (.iconst 1, 1) := by decide +kernel
theorem dX10_read_115 : decode cX10_read 115 = .ok (.goto 4, 3) := by decide +kernel
theorem dX10_read_118 : decode cX10_read 118 = .ok (.iconst 0, 1) := by decide +kernel
theorem dX10_read_119 : decode cX10_read 119 = .ok (.istore_n 2, 1) := by decide +kernel
theorem dX10_read_120 : decode cX10_read 120 = .ok (.iload_n 2, 1) := by decide +kernel
theorem dX10_read_121 : decode cX10_read 121 = .ok (.ifCond .eq 7, 3) := by decide +kernel
theorem dX10_read_124 : decode cX10_read 124 = .ok (.iconst (-1), 1) := by decide +kernel
theorem dX10_read_125 : decode cX10_read 125 = .ok (.goto 10, 3) := by decide +kernel
theorem dX10_read_128 : decode cX10_read 128 = .ok (.aload_n 0, 1) := by decide +kernel
theorem dX10_read_129 : decode cX10_read 129 = .ok (.getfield 22, 3) := by decide +kernel
theorem dX10_read_132 : decode cX10_read 132 = .ok (.getfield 45, 3) := by decide +kernel
theorem dX10_read_135 : decode cX10_read 135 = .ok (.ireturn, 1) := by decide +kernel
set_option maxRecDepth 100000 in
theorem pC_X10_53_5 {Q : Option AV → Mm → Prop} {K : KT} {cc : ByteArray} {nL d : Nat} {ret : Option FieldType} {pc n : Nat} {ls : List (Option AV)} {st : List AV} {μ : Mm} {a : Int} (hO : KOk PC Q K cc RX10 nL d ret) (hd : decode cc pc = .ok (.putfield 53, 3)) (hn : pc + 3 = n) (kk : AW K n ls st (mst μ 5 1 a)) : AW K pc ls (vI a :: vR 5 :: st) μ := aw_putN (f := 1) hO hd hn okX9 tyX9_ok nmX9 (by decide) (lw_t1n 78 rfl rfl) rfl rfl rfl (by decide) rfl rfl kk
set_option maxRecDepth 100000 in
theorem pC_X10_56_5 {Q : Option AV → Mm → Prop} {K : KT} {cc : ByteArray} {nL d : Nat} {ret : Option FieldType} {pc n : Nat} {ls : List (Option AV)} {st : List AV} {μ : Mm} {a : Int} (hO : KOk PC Q K cc RX10 nL d ret) (hd : decode cc pc = .ok (.putfield 56, 3)) (hn : pc + 3 = n) (kk : AW K n ls st (mst μ 5 2 a)) : AW K pc ls (vI a :: vR 5 :: st) μ := aw_putN (f := 2) hO hd hn okX9 tyX9_ok nmX9 (by decide) (lw_t1n 86 rfl rfl) rfl rfl rfl (by decide) rfl rfl kk
set_option maxRecDepth 100000 in
theorem gC_X10_45_1 {Q : Option AV → Mm → Prop} {K : KT} {cc : ByteArray} {nL d : Nat} {ret : Option FieldType} {pc n : Nat} {ls : List (Option AV)} {st : List AV} {μ : Mm} (hO : KOk PC Q K cc RX10 nL d ret) (hd : decode cc pc = .ok (.getfield 45, 3)) (hn : pc + 3 = n) (kk : AW K n ls (vI (μ.1 1 3) :: st) μ) : AW K pc ls (vR 1 :: st) μ := aw_getN (f := 3) hO hd hn okX8 (by decide) (lw_t1n 47 rfl rfl) (by decide) rfl rfl rfl kk
set_option maxHeartbeats 4000000 in
set_option maxRecDepth 100000 in
theorem cT_readTown {μ : Mm} {g : Nat → Int} {N : Nat} (h : TC g N μ) : CtE PC 5 yX10_read cX10_read 3 (some .int) [vR 4] μ (fun r m => Fr rS μ m ∧ r = faultV (pTown g) ∧ ∀ q s, pTown g = (q, some s) → TMc m s ∧ (m.1 5 1 = ((s.2.1.1 : Nat) : Int) ∧ m.1 5 2 = ((s.2.2.1 : Nat) : Int)) ∧ TwOk s) := by
  refine ct_intro [some (vR 4), none, none] RX10 (by decide) rfl XCo rfl (Nat.le_of_ble_eq_true rfl) (fun K hO => ?_)
  have hG := h.1
  have k67 : ∀ (q i : Nat) (s : Tw) (m : Mm), Fr rS μ m → TO g N m → m.1 1 3 = (q : Int) → q ≤ N → g q ≠ 59 → TMc m s → TwOk s → aftT g (fun _ => (0, none)) q s = pTown g → AW K 67 [some (vR 4), some (vI 0), some (vI ((i : Nat) : Int))] [] m := by
    intro q i s m hF hQt hp hq h59 hM hW hA
    have hgr := hG.rng q
    have hcn := hW.2.1.1
    unfold aftT at hA
    rw [if_neg h59] at hA
    refine aw_aload_n hO dX10_read_67 rfl rfl ?_
    refine gC_X10_12_4 hO dX10_read_68 rfl ?_
    refine aw_aload_n hO dX10_read_71 rfl rfl ?_
    refine gC_X10_18_4 hO dX10_read_72 rfl ?_
    refine aw_iconst hO dX10_read_75 rfl ?_
    refine aw_ialdn (N := 3) (i := 1) hO dX10_read_76 rfl (by decide) rfl (by decide) rfl (by decide) ?_
    refine aw_cg (hM.1.2.1) ?_
    refine pC_X10_53_5 hO dX10_read_77 rfl ?_
    refine aw_mm (fun μ1 e_μ1 => ?_)
    have hM_μ1 : TMc μ1 s := hM.fr (by rw [e_μ1]; exact funext fun _ => mst_nk (by decide)) (by rw [e_μ1]; exact funext fun _ => mst_nk (by decide))
    have hQt_μ1 : TO g N μ1 := hQt.fr (by rw [e_μ1, mst_nk (by decide)]) (by rw [e_μ1]; exact funext fun _ => mst_nk (by decide)) (by rw [e_μ1]; exact funext fun _ => mst_nk (by decide))
    have hp_μ1 : μ1.1 1 3 = (q : Int) := by rw [e_μ1, mst_nk (by decide)]; exact hp
    refine aw_aload_n hO dX10_read_80 rfl rfl ?_
    refine gC_X10_12_4 hO dX10_read_81 rfl ?_
    refine aw_aload_n hO dX10_read_84 rfl rfl ?_
    refine gC_X10_18_4 hO dX10_read_85 rfl ?_
    refine aw_iconst hO dX10_read_88 rfl ?_
    refine aw_ialdn (N := 3) (i := 2) hO dX10_read_89 rfl (by decide) rfl (by decide) rfl (by decide) ?_
    refine aw_cg (hM_μ1.1.2.2) ?_
    refine pC_X10_56_5 hO dX10_read_90 rfl ?_
    refine aw_mm (fun μ2 e_μ2 => ?_)
    have hM_μ2 : TMc μ2 s := hM_μ1.fr (by rw [e_μ2]; exact funext fun _ => mst_nk (by decide)) (by rw [e_μ2]; exact funext fun _ => mst_nk (by decide))
    have hQt_μ2 : TO g N μ2 := hQt_μ1.fr (by rw [e_μ2, mst_nk (by decide)]) (by rw [e_μ2]; exact funext fun _ => mst_nk (by decide)) (by rw [e_μ2]; exact funext fun _ => mst_nk (by decide))
    have hp_μ2 : μ2.1 1 3 = (q : Int) := by rw [e_μ2, mst_nk (by decide)]; exact hp_μ1
    refine aw_aload_n hO dX10_read_93 rfl rfl ?_
    refine gC_X10_22_4 hO dX10_read_94 rfl ?_
    refine aw_callVI (as := []) (st := []) hO dX10_read_97 rfl (lw_t2 140 rfl rfl) kX8_sign (T := TX8) rfl (by decide) rfl (cT_sign hQt_μ2.1 hp_μ2 hq) (by decide) rfl rfl rfl (Nat.le_of_ble_eq_true rfl) ?_
    refine aw_iconst hO dX10_read_100 rfl ?_
    refine aw_icmp_ne (tgt := 118) hO dX10_read_101 rfl rfl ⟨by omega, by omega⟩ (inRlit _) (fun c101 => ?_) (fun c101 => ?_)
    · refine aw_iconst hO dX10_read_118 rfl ?_
      refine aw_istore_n (ls' := [some (vR 4), some (vI 0), some (vI 0)]) hO dX10_read_119 rfl (Nat.le_of_ble_eq_true rfl) rfl rfl ?_
      refine aw_iload_n hO dX10_read_120 rfl rfl ?_
      refine aw_if_eq (tgt := 128) hO dX10_read_121 rfl rfl (inRlit _) (fun c121 => ?_) (fun c121 => ?_)
      · refine aw_aload_n hO dX10_read_128 rfl rfl ?_
        refine gC_X10_22_4 hO dX10_read_129 rfl ?_
        refine gC_X10_45_1 hO dX10_read_132 rfl ?_
        refine aw_cg hp_μ2 ?_
        refine aw_iret hO dX10_read_135 ?_
        rw [if_neg (fun z => c101 z.1)] at hA
        exact ⟨_, rfl, by rw [e_μ2, e_μ1]; exact (hF.st (Or.inr (Or.inr (Or.inl ⟨rfl, Or.inl rfl⟩))) _).st (Or.inr (Or.inr (Or.inl ⟨rfl, Or.inr rfl⟩))) _, (faultV_n hA.symm).symm, fun q2 s2 e => (by rw [← hA] at e; simp at e)⟩
      · exact absurd c121 (by omega)
    · refine aw_aload_n hO dX10_read_104 rfl rfl ?_
      refine gC_X10_18_4 hO dX10_read_105 rfl ?_
      refine aw_iconst hO dX10_read_108 rfl ?_
      refine aw_ialdn (N := 3) (i := 1) hO dX10_read_109 rfl (by decide) rfl (by decide) rfl (by decide) ?_
      refine aw_cg (hM_μ2.1.2.1) ?_
      refine aw_iconst hO dX10_read_110 rfl ?_
      refine aw_icmp_lt (tgt := 118) hO dX10_read_111 rfl rfl (inRn (by omega)) (inRlit _) (fun c111 => ?_) (fun c111 => ?_)
      · refine aw_iconst hO dX10_read_118 rfl ?_
        refine aw_istore_n (ls' := [some (vR 4), some (vI 0), some (vI 0)]) hO dX10_read_119 rfl (Nat.le_of_ble_eq_true rfl) rfl rfl ?_
        refine aw_iload_n hO dX10_read_120 rfl rfl ?_
        refine aw_if_eq (tgt := 128) hO dX10_read_121 rfl rfl (inRlit _) (fun c121 => ?_) (fun c121 => ?_)
        · refine aw_aload_n hO dX10_read_128 rfl rfl ?_
          refine gC_X10_22_4 hO dX10_read_129 rfl ?_
          refine gC_X10_45_1 hO dX10_read_132 rfl ?_
          refine aw_cg hp_μ2 ?_
          refine aw_iret hO dX10_read_135 ?_
          rw [if_neg (fun z => by have := z.2; omega)] at hA
          exact ⟨_, rfl, by rw [e_μ2, e_μ1]; exact (hF.st (Or.inr (Or.inr (Or.inl ⟨rfl, Or.inl rfl⟩))) _).st (Or.inr (Or.inr (Or.inl ⟨rfl, Or.inr rfl⟩))) _, (faultV_n hA.symm).symm, fun q2 s2 e => (by rw [← hA] at e; simp at e)⟩
        · exact absurd c121 (by omega)
      · refine aw_iconst hO dX10_read_114 rfl ?_
        refine aw_goto (tgt := 119) hO dX10_read_115 rfl ?_
        refine aw_istore_n (ls' := [some (vR 4), some (vI 0), some (vI 1)]) hO dX10_read_119 rfl (Nat.le_of_ble_eq_true rfl) rfl rfl ?_
        refine aw_iload_n hO dX10_read_120 rfl rfl ?_
        refine aw_if_eq (tgt := 128) hO dX10_read_121 rfl rfl (inRlit _) (fun c121 => ?_) (fun c121 => ?_)
        · exact absurd c121 (by omega)
        · refine aw_iconst hO dX10_read_124 rfl ?_
          refine aw_goto (tgt := 135) hO dX10_read_125 rfl ?_
          refine aw_iret hO dX10_read_135 ?_
          rw [if_pos ⟨c101, by omega⟩] at hA
          exact ⟨_, rfl, by rw [e_μ2, e_μ1]; exact (hF.st (Or.inr (Or.inr (Or.inl ⟨rfl, Or.inl rfl⟩))) _).st (Or.inr (Or.inr (Or.inl ⟨rfl, Or.inr rfl⟩))) _, (faultV_s hA.symm).symm, fun q2 s2 e => (by rw [← hA] at e; simp only [Prod.mk.injEq, Option.some.injEq] at e; obtain ⟨rfl, rfl⟩ := e; exact ⟨hM_μ2, ⟨by rw [e_μ2, mst_ni (by decide), e_μ1, mst_eq], by rw [e_μ2, mst_eq]⟩, hW⟩)⟩
  have lp : ∀ (f p i : Nat) (s : Tw) (m : Mm), 2 * i ≤ p → p ≤ N → N < p + f → sk g p = p → Fr rS μ m → TO g N m → m.1 1 3 = (p : Int) → TMc m s → TwOk s → pTs g f p s = pTown g → AW K 25 [some (vR 4), some (vI 1), some (vI ((i : Nat) : Int))] [] m := by
    intro f
    induction f with
    | zero => intro p i s m _ h1 h2; omega
    | succ f ih =>
      intro p i s m hip hpN hf hsk hF hQt hp hM hW hD
      have hN2 := hG.1
      have hcG := pTc_G hG hpN hW
      refine aw_iload_n hO dX10_read_25 rfl rfl ?_
      refine aw_if_eq (tgt := 67) hO dX10_read_26 rfl rfl (inRlit _) (fun c26 => ?_) (fun c26 => ?_)
      · exact absurd c26 (by omega)
      · refine aw_iload_n hO dX10_read_29 rfl rfl ?_
        refine aw_sipush hO dX10_read_30 rfl (by decide) (by decide) ?_
        refine aw_icmp_ge (tgt := 67) hO dX10_read_33 rfl rfl (inRn (by omega)) (inRlit _) (fun c33 => ?_) (fun c33 => ?_)
        · exact absurd c33 (by omega)
        · refine aw_aload_n hO dX10_read_36 rfl rfl ?_
          refine aw_callVE (as := []) (st := []) hO dX10_read_37 rfl (lw_t2 136 rfl rfl) kX10_readClause (T := TX10) rfl (by decide) rfl (cT_readClause hQt hp hpN hsk hM hW.2.1.1 hW.cn) (by decide) rfl rfl rfl (Nat.le_of_ble_eq_true rfl) (fun v3 μ4 hq5 => ?_)
          obtain ⟨hFc, hC1, hC2⟩ := hq5
          have hQt1 := hQt.cs hFc
          have hF1 : Fr rS μ μ4 := hF.tr (hFc.mono (fun _ _ e => cS_r e))
          obtain ⟨cq, co, hco⟩ : ∃ cq co, pTc g p s = (cq, co) := ⟨_, _, rfl⟩
          have hv01 : v3 = 0 ∨ v3 = 1 := by
            cases co with
            | none => exact Or.inl (hC1 cq hco).1
            | some s2 => exact Or.inr (hC2 cq s2 hco).1
          refine aw_if_ne (tgt := 51) hO dX10_read_40 rfl rfl ⟨by omega, by omega⟩ (fun c40 => ?_) (fun c40 => ?_)
          · obtain ⟨s2, hcs, hcp, hM2⟩ : ∃ s2, pTc g p s = (cq, some s2) ∧ μ4.1 1 3 = (cq : Int) ∧ TMc μ4 s2 := by
              cases co with
              | none => exact absurd (hC1 cq hco).1 c40
              | some s2 => exact ⟨s2, hco, (hC2 cq s2 hco).2⟩
            obtain ⟨hc1, hc2, hc3, hW2⟩ := hcG.2 cq s2 hcs
            rw [pTs_g hcs] at hD
            have hgr := hG.rng cq
            refine aw_aload_n hO dX10_read_51 rfl rfl ?_
            refine gC_X10_22_4 hO dX10_read_52 rfl ?_
            refine aw_bipush hO dX10_read_55 rfl (by decide) (by decide) ?_
            refine aw_callVE (as := [vI 59]) (st := []) hO dX10_read_57 rfl (lw_t2 224 rfl rfl) kX8_takes (T := TX8) rfl (by decide) rfl (cT_takes hQt1 hcp hc2 (c := 59) (by omega) (by omega)) (by decide) rfl rfl rfl (Nat.le_of_ble_eq_true rfl) (fun v6 μ7 hq8 => ?_)
            obtain ⟨e_v6, e_μ7⟩ := hq8
            refine aw_istore_n (ls' := [some (vR 4), some (vI v6), some (vI ((i : Nat) : Int))]) hO dX10_read_60 rfl (Nat.le_of_ble_eq_true rfl) rfl rfl ?_
            refine aw_iinc (ls' := [some (vR 4), some (vI v6), some (vI (((i : Nat) : Int) + 1))]) hO dX10_read_61 rfl rfl rfl rfl ?_
            refine aw_lsq (ls' := [some (vR 4), some (vI v6), some (vI (((i + 1) : Nat) : Int))]) rfl ?_
            refine aw_goto (tgt := 25) hO dX10_read_64 rfl ?_
            by_cases h59 : g cq = 59
            · rw [if_pos h59] at e_v6 e_μ7
              subst e_v6
              refine aw_lsq (ls' := [some (vR 4), some (vI 1), some (vI ((i + 1 : Nat) : Int))]) rfl ?_
              have hlt := hG.lt (p := cq) (by omega)
              have hs1 := sk_ge g (cq + 1)
              have hs2 := sk_le hG (p := cq + 1) (by omega)
              exact ih (sk g (cq + 1)) (i + 1) s2 μ7 (by omega) hs2 (by omega) (sk_sk hG _) (by rw [e_μ7]; exact hF1.st (Or.inl ⟨rfl, Or.inl rfl⟩) _) (by rw [e_μ7]; exact hQt1.st (by decide) _) (by rw [e_μ7, mst_eq]) (hM2.fr (by rw [e_μ7]; exact funext fun _ => mst_nk (by decide)) (by rw [e_μ7]; exact funext fun _ => mst_nk (by decide))) hW2 (by unfold aftT at hD; rw [if_pos h59] at hD; exact hD)
            · rw [if_neg h59] at e_v6 e_μ7
              subst e_v6
              refine aw_meq e_μ7 ?_
              refine aw_lsq (ls' := [some (vR 4), some (vI 0), some (vI (((i + 1) : Nat) : Int))]) rfl ?_
              refine aw_iload_n hO dX10_read_25 rfl rfl ?_
              refine aw_if_eq (tgt := 67) hO dX10_read_26 rfl rfl (inRlit _) (fun c26 => ?_) (fun c26 => ?_)
              · exact k67 cq (i + 1) s2 μ4 hF1 hQt1 hcp hc2 h59 hM2 hW2 (by unfold aftT at hD ⊢; rw [if_neg h59] at hD ⊢; exact hD)
              · exact absurd c26 (by omega)
          · have hcn : pTc g p s = (cq, none) ∧ μ4.1 1 3 = (cq : Int) := by
              cases co with
              | none => exact ⟨hco, (hC1 cq hco).2⟩
              | some s2 => exact absurd ((hC2 cq s2 hco).1.symm.trans c40) (by decide)
            obtain ⟨hcn, hcp⟩ := hcn
            refine aw_aload_n hO dX10_read_43 rfl rfl ?_
            refine gC_X10_22_4 hO dX10_read_44 rfl ?_
            refine gC_X10_45_1 hO dX10_read_47 rfl ?_
            refine aw_cg hcp ?_
            refine aw_iret hO dX10_read_50 ?_
            rw [pTs_b hcn] at hD
            exact ⟨_, rfl, hF1, (faultV_n hD.symm).symm, fun q2 s2 e => (by rw [← hD] at e; simp at e)⟩
  refine aw_aload_n hO dX10_read_0 rfl rfl ?_
  refine gC_X10_18_4 hO dX10_read_1 rfl ?_
  refine aw_iconst hO dX10_read_4 rfl ?_
  refine aw_callSV (as := [vR 7, vI 0]) (st := []) hO dX10_read_5 rfl (lw_t2 120 rfl rfl) kJ7_fill_53178 (ctC_fill μ (r := 7) (N := 3) (v := 0) (by decide) rfl (by decide)) (by decide) rfl rfl rfl (Nat.le_of_ble_eq_true rfl) (fun μ10 hq11 => ?_)
  have e_μ10 := hq11
  refine aw_aload_n hO dX10_read_8 rfl rfl ?_
  refine aw_iconst hO dX10_read_9 rfl ?_
  refine aw_iconst hO dX10_read_10 rfl ?_
  refine aw_callVV (as := [vI ((0 : Nat) : Int), vI ((0 : Nat) : Int)]) (st := []) hO dX10_read_11 rfl (lw_t2 123 rfl rfl) kX10_startRow (T := TX10) rfl (by decide) rfl (cT_startRow μ10 (k := 0) (r := 0) (by decide) (by decide)) (by decide) rfl rfl rfl (Nat.le_of_ble_eq_true rfl) (fun μ13 hq14 => ?_)
  have e_μ13 := hq14
  have hT2 : TC g N μ13 := h.fr (by rw [e_μ13, mtb_nk (by decide), e_μ10, mfl_nk (by decide)]) (by rw [e_μ13]; exact funext fun _ => (mtb_nk (by decide)).trans (by rw [e_μ10, mfl_nk (by decide)]))
  refine aw_aload_n hO dX10_read_14 rfl rfl ?_
  refine gC_X10_22_4 hO dX10_read_15 rfl ?_
  refine aw_callVV (as := []) (st := []) hO dX10_read_18 rfl (lw_t2 132 rfl rfl) kX8_rewind (T := TX8) rfl (by decide) rfl (cT_rewind hT2) (by decide) rfl rfl rfl (Nat.le_of_ble_eq_true rfl) (fun μ16 hq17 => ?_)
  obtain ⟨hFr, hQt3, hp3⟩ := hq17
  refine aw_iconst hO dX10_read_21 rfl ?_
  refine aw_istore_n (ls' := [some (vR 4), some (vI 1), none]) hO dX10_read_22 rfl (Nat.le_of_ble_eq_true rfl) rfl rfl ?_
  refine aw_iconst hO dX10_read_23 rfl ?_
  refine aw_istore_n (ls' := [some (vR 4), some (vI 1), some (vI 0)]) hO dX10_read_24 rfl (Nat.le_of_ble_eq_true rfl) rfl rfl ?_
  refine aw_lsq (ls' := [some (vR 4), some (vI 1), some (vI ((0 : Nat) : Int))]) rfl ?_
  have h6 : ∀ x, μ16.1 6 x = μ13.1 6 x := fun x => hFr.1 6 x (by omega)
  have h7 : ∀ x, x < 3 → μ16.1 7 x = 0 := fun x hx => by rw [hFr.1 7 x (by omega), e_μ13, mtb_nk (by decide), e_μ10, mfl_in (by omega) (by omega)]
  have hus := fun (x : Nat) (hx : x < 4) => (lohi_all ⟨0, by decide⟩ ⟨x, hx⟩ hx).2.2
  exact lp 241 (sk g 0) 0 tw0 μ16 (by omega) (sk_le hG (Nat.zero_le _)) (by have := hG.1; omega) (sk_sk hG _) ⟨fun k i hn => by unfold rS tS at hn; rw [hFr.1 k i (by omega), e_μ13, mtb_nk (by omega), e_μ10, mfl_nk (by omega)], by rw [hFr.2, e_μ13]; show μ10.2 = μ.2; rw [e_μ10]; rfl⟩ hQt3 hp3 ⟨⟨h7 0 (by decide), h7 1 (by decide), h7 2 (by decide)⟩, fun x hx => by rw [h6, e_μ13, mtb_in (by omega) (by omega)]; have := hus x hx; simp only [Nat.mul_zero, Nat.zero_add, Nat.sub_zero] at this ⊢; exact this, fun i hi => absurd hi (Nat.not_lt_zero _), fun i hi => absurd hi (Nat.not_lt_zero _)⟩ tw0_ok rfl
