
/-! ## odds -/
def clrM (away : Int) (n : Nat) (F : Nat → Int) (o : Nat) : Nat → Int := fun i => if o ≤ i ∧ i < n ∧ hasB away i = false then 0 else F i
/-- from person o on (c are left) over the state F, of so many parts those by which v is picked -/
def odF (μ : Mm) (v ch : Int) : Nat → Nat → (Nat → Int) → Int → Int
  | 0, _, F, pt => if pickM (wN μ F) (μ.1 0 25).toNat = v then pt else 0
  | c + 1, o, F, pt => if hasB (μ.1 17 31) o = true then odF μ v ch c (o + 1) F pt else odF μ v ch c (o + 1) (fu F o 1) ((pt * ch).tdiv 100) + odF μ v ch c (o + 1) (fu (clrM (μ.1 17 31) (μ.1 0 25).toNat (fu F o 1) (o + 1)) o 0) (pt - (pt * ch).tdiv 100)
theorem clr_ok {away : Int} {n : Nat} {F : Nat → Int} {o : Nat} (hn : n ≤ 6) (h : NowOK F) : NowOK (clrM away n F o) := by
  have hr := h.rest
  have e : ∀ i, 6 ≤ i → clrM away n F o i = F i := fun i hi => by unfold clrM; rw [if_neg (by omega)]
  unfold NowOK
  refine ⟨fun p hp => ?_, fun j hj => by rw [e _ (by omega)]; exact h.2.1 j hj, fun p hp => by rw [e _ (by omega)]; exact h.2.2.1 p hp, fun t ht => by rw [e _ (by omega)]; exact h.2.2.2.1 t ht, ?_⟩
  · have := h.1 p hp
    unfold clrM
    split <;> omega
  · rw [e 29 (by omega), e 30 (by omega), e 31 (by omega), e 32 (by omega), e 33 (by omega), e 34 (by omega), e 35 (by omega), e 36 (by omega), e 37 (by omega)]
    exact hr
theorem clr_end {away : Int} {n : Nat} {F : Nat → Int} {o : Nat} (h : n ≤ o) : clrM away n F o = F := by
  funext i
  unfold clrM
  rw [if_neg (by omega)]
theorem clr_away {away : Int} {n : Nat} {F : Nat → Int} {o : Nat} (h : hasB away o = true) : clrM away n F (o + 1) = clrM away n F o := by
  funext i
  unfold clrM
  by_cases e : i = o
  · subst e
    rw [if_neg (by omega), if_neg (fun q => by rw [h] at q; cases q.2.2)]
  · by_cases q : o + 1 ≤ i ∧ i < n ∧ hasB away i = false
    · rw [if_pos q, if_pos ⟨by omega, q.2⟩]
    · rw [if_neg q, if_neg (fun z => q ⟨by omega, z.2⟩)]
theorem clr_fin {away : Int} {n : Nat} {F : Nat → Int} {o : Nat} (ho : o < n) (h : hasB away o = false) : clrM away n (fu (clrM away n (fu F o 1) (o + 1)) o 0) (o + 1) = clrM away n F o := by
  funext i
  unfold clrM fu
  by_cases e : i = o
  · subst e
    rw [if_neg (by omega), if_pos rfl, if_pos ⟨by omega, ho, h⟩]
  · by_cases q : o + 1 ≤ i ∧ i < n ∧ hasB away i = false
    · rw [if_pos q, if_pos ⟨by omega, q.2⟩]
    · rw [if_neg q, if_neg e]
      dsimp only
      rw [if_neg q, if_neg e, if_neg (fun z => q ⟨by omega, z.2⟩)]
theorem pt_rng {pt ch : Int} (h1 : 0 ≤ pt) (h2 : pt ≤ 1000000000) (h3 : 0 ≤ ch) (h4 : ch ≤ 100) : (0 ≤ pt * ch ∧ pt * ch ≤ 100000000000) ∧ (0 ≤ (pt * ch).tdiv 100 ∧ (pt * ch).tdiv 100 ≤ pt) := by
  have e1 := Int.mul_nonneg h1 h3
  have e2 : pt * ch ≤ pt * 100 := Int.mul_le_mul_of_nonneg_left h4 h1
  refine ⟨⟨e1, by omega⟩, ?_⟩
  rw [Int.tdiv_eq_ediv_of_nonneg e1]
  omega
theorem dX12_oddsFrom_0 : decode cX12_oddsFrom 0 = .ok (.iload_n 2, 1) := by decide +kernel
theorem dX12_oddsFrom_1 : decode cX12_oddsFrom 1 = .ok (.aload_n 0, 1) := by decide +kernel
theorem dX12_oddsFrom_2 : decode cX12_oddsFrom 2 = .ok (.getfield 242, 3) := by decide +kernel
theorem dX12_oddsFrom_5 : decode cX12_oddsFrom 5 = .ok (.if_icmp .ne 18, 3) := by decide +kernel
theorem dX12_oddsFrom_8 : decode cX12_oddsFrom 8 = .ok (.aload_n 0, 1) := by decide +kernel
theorem dX12_oddsFrom_9 : decode cX12_oddsFrom 9 = .ok (.invokevirtual 295, 3) := by decide +kernel
theorem dX12_oddsFrom_12 : decode cX12_oddsFrom 12 = .ok (.iload_n 1, 1) := by decide +kernel
theorem dX12_oddsFrom_13 : decode cX12_oddsFrom 13 = .ok (.if_icmp .ne 8, 3) := by decide +kernel
theorem dX12_oddsFrom_16 : decode cX12_oddsFrom 16 = .ok (.iload 4, 2) := by decide +kernel
theorem dX12_oddsFrom_18 : decode cX12_oddsFrom 18 = .ok (.goto 4, 3) := by decide +kernel
theorem dX12_oddsFrom_21 : decode cX12_oddsFrom 21 = .ok (.iconst 0, 1) := by decide +kernel
theorem dX12_oddsFrom_22 : decode cX12_oddsFrom 22 = .ok (.ireturn, 1) := by decide +kernel
theorem dX12_oddsFrom_23 : decode cX12_oddsFrom 23 = .ok (.aload_n 0, 1) := by decide +kernel
theorem dX12_oddsFrom_24 : decode cX12_oddsFrom 24 = .ok (.iload_n 2, 1) := by decide +kernel
theorem dX12_oddsFrom_25 : decode cX12_oddsFrom 25 = .ok (.invokevirtual 280, 3) := by decide +kernel
theorem dX12_oddsFrom_28 : decode cX12_oddsFrom 28 = .ok (.ifCond .eq 15, 3) := by decide +kernel
theorem dX12_oddsFrom_31 : decode cX12_oddsFrom 31 = .ok (.aload_n 0, 1) := by decide +kernel
theorem dX12_oddsFrom_32 : decode cX12_oddsFrom 32 = .ok (.iload_n 1, 1) := by decide +kernel
theorem dX12_oddsFrom_33 : decode cX12_oddsFrom 33 = .ok (.iload_n 2, 1) := by decide +kernel
theorem dX12_oddsFrom_34 : decode cX12_oddsFrom 34 = .ok (.iconst 1, 1) := by decide +kernel
theorem dX12_oddsFrom_35 : decode cX12_oddsFrom 35 = .ok (.iadd, 1) := by decide +kernel
theorem dX12_oddsFrom_36 : decode cX12_oddsFrom 36 = .ok (.iload_n 3, 1) := by decide +kernel
theorem dX12_oddsFrom_37 : decode cX12_oddsFrom 37 = .ok (.iload 4, 2) := by decide +kernel
theorem dX12_oddsFrom_39 : decode cX12_oddsFrom 39 = .ok (.invokevirtual 414, 3) := by decide +kernel
theorem dX12_oddsFrom_42 : decode cX12_oddsFrom 42 = .ok (.ireturn, 1) := by decide +kernel
theorem dX12_oddsFrom_43 : decode cX12_oddsFrom 43 = .ok (.iload 4, 2) := by decide +kernel
theorem dX12_oddsFrom_45 : decode cX12_oddsFrom 45 = .ok (.i2l, 1) := by decide +kernel
theorem dX12_oddsFrom_46 : decode cX12_oddsFrom 46 = .ok (.iload_n 3, 1) := by decide +kernel
theorem dX12_oddsFrom_47 : decode cX12_oddsFrom 47 = .ok (.i2l, 1) := by decide +kernel
theorem dX12_oddsFrom_48 : decode cX12_oddsFrom 48 = .ok (.lmul, 1) := by decide +kernel
theorem dX12_oddsFrom_49 : decode cX12_oddsFrom 49 = .ok (.ldc2_w 418, 3) := by decide +kernel
theorem dX12_oddsFrom_52 : decode cX12_oddsFrom 52 = .ok (.ldiv, 1) := by decide +kernel
theorem dX12_oddsFrom_53 : decode cX12_oddsFrom 53 = .ok (.l2i, 1) := by decide +kernel
theorem dX12_oddsFrom_54 : decode cX12_oddsFrom 54 = .ok (.istore 5, 2) := by decide +kernel
theorem dX12_oddsFrom_56 : decode cX12_oddsFrom 56 = .ok (.aload_n 0, 1) := by decide +kernel
theorem dX12_oddsFrom_57 : decode cX12_oddsFrom 57 = .ok (.getfield 58, 3) := by decide +kernel
theorem dX12_oddsFrom_60 : decode cX12_oddsFrom 60 = .ok (.iconst 0, 1) := by decide +kernel
theorem dX12_oddsFrom_61 : decode cX12_oddsFrom 61 = .ok (.iload_n 2, 1) := by decide +kernel
theorem dX12_oddsFrom_62 : decode cX12_oddsFrom 62 = .ok (.iadd, 1) := by decide +kernel
theorem dX12_oddsFrom_63 : decode cX12_oddsFrom 63 = .ok (.iconst 1, 1) := by decide +kernel
theorem dX12_oddsFrom_64 : decode cX12_oddsFrom 64 = .ok (.iastore, 1) := by decide +kernel
theorem dX12_oddsFrom_65 : decode cX12_oddsFrom 65 = .ok (.aload_n 0, 1) := by decide +kernel
theorem dX12_oddsFrom_66 : decode cX12_oddsFrom 66 = .ok (.iload_n 1, 1) := by decide +kernel
theorem dX12_oddsFrom_67 : decode cX12_oddsFrom 67 = .ok (.iload_n 2, 1) := by decide +kernel
theorem dX12_oddsFrom_68 : decode cX12_oddsFrom 68 = .ok (.iconst 1, 1) := by decide +kernel
theorem dX12_oddsFrom_69 : decode cX12_oddsFrom 69 = .ok (.iadd, 1) := by decide +kernel
theorem dX12_oddsFrom_70 : decode cX12_oddsFrom 70 = .ok (.iload_n 3, 1) := by decide +kernel
theorem dX12_oddsFrom_71 : decode cX12_oddsFrom 71 = .ok (.iload 5, 2) := by decide +kernel
theorem dX12_oddsFrom_73 : decode cX12_oddsFrom 73 = .ok (.invokevirtual 414, 3) := by decide +kernel
theorem dX12_oddsFrom_76 : decode cX12_oddsFrom 76 = .ok (.istore 6, 2) := by decide +kernel
theorem dX12_oddsFrom_78 : decode cX12_oddsFrom 78 = .ok (.aload_n 0, 1) := by decide +kernel
theorem dX12_oddsFrom_79 : decode cX12_oddsFrom 79 = .ok (.getfield 58, 3) := by decide +kernel
theorem dX12_oddsFrom_82 : decode cX12_oddsFrom 82 = .ok (.iconst 0, 1) := by decide +kernel
theorem dX12_oddsFrom_83 : decode cX12_oddsFrom 83 = .ok (.iload_n 2, 1) := by decide +kernel
theorem dX12_oddsFrom_84 : decode cX12_oddsFrom 84 = .ok (.iadd, 1) := by decide +kernel
theorem dX12_oddsFrom_85 : decode cX12_oddsFrom 85 = .ok (.iconst 0, 1) := by decide +kernel
theorem dX12_oddsFrom_86 : decode cX12_oddsFrom 86 = .ok (.iastore, 1) := by decide +kernel
theorem dX12_oddsFrom_87 : decode cX12_oddsFrom 87 = .ok (.iload 6, 2) := by decide +kernel
theorem dX12_oddsFrom_89 : decode cX12_oddsFrom 89 = .ok (.aload_n 0, 1) := by decide +kernel
theorem dX12_oddsFrom_90 : decode cX12_oddsFrom 90 = .ok (.iload_n 1, 1) := by decide +kernel
theorem dX12_oddsFrom_91 : decode cX12_oddsFrom 91 = .ok (.iload_n 2, 1) := by decide +kernel
theorem dX12_oddsFrom_92 : decode cX12_oddsFrom 92 = .ok (.iconst 1, 1) := by decide +kernel
theorem dX12_oddsFrom_93 : decode cX12_oddsFrom 93 = .ok (.iadd, 1) := by decide +kernel
theorem dX12_oddsFrom_94 : decode cX12_oddsFrom 94 = .ok (.iload_n 3, 1) := by decide +kernel
theorem dX12_oddsFrom_95 : decode cX12_oddsFrom 95 = .ok (.iload 4, 2) := by decide +kernel
theorem dX12_oddsFrom_97 : decode cX12_oddsFrom 97 = .ok (.iload 5, 2) := by decide +kernel
theorem dX12_oddsFrom_99 : decode cX12_oddsFrom 99 = .ok (.isub, 1) := by decide +kernel
theorem dX12_oddsFrom_100 : decode cX12_oddsFrom 100 = .ok (.invokevirtual 414, 3) := by decide +kernel
theorem dX12_oddsFrom_103 : decode cX12_oddsFrom 103 = .ok (.iadd, 1) := by decide +kernel
theorem dX12_oddsFrom_104 : decode cX12_oddsFrom 104 = .ok (.ireturn, 1) := by decide +kernel
set_option maxHeartbeats 4000000 in
set_option maxRecDepth 100000 in
theorem ctM_oddsFrom (μ : Mm) (h : MG μ) {v ch : Int} (hv : InR v) (hc1 : 0 ≤ ch) (hc2 : ch ≤ 100) : ∀ (c o : Nat) (F : Nat → Int) (pt : Int) (m : Mm), (o : Int) + c = μ.1 0 25 → NowOK F → F 31 = μ.1 17 31 → 0 ≤ pt → pt ≤ 1000000000 → Ap μ F m → CtE PM (9 + c) yX12_oddsFrom cX12_oddsFrom 7 (some .int) [vR 0, vI v, vI ((o : Nat) : Int), vI ch, vI pt] m (fun r m2 => r = odF μ v ch c o F pt ∧ Ap μ (clrM (μ.1 17 31) (μ.1 0 25).toNat F o) m2) := by
  intro c
  have hnp := h.1.np
  induction c with
  | zero =>
    intro o F pt m ho hF hF31 hp1 hp2 hA_m
    refine ct_intro [some (vR 0), some (vI v), some (vI ((o : Nat) : Int)), some (vI ch), some (vI pt), none, none] RX12 (by decide) rfl XM rfl (Nat.le_of_ble_eq_true rfl) (fun K hO => ?_)
    have hE := hA_m.E
    have h25 : m.1 0 25 = μ.1 0 25 := hE.1.1
    refine aw_iload_n hO dX12_oddsFrom_0 rfl rfl ?_
    refine aw_aload_n hO dX12_oddsFrom_1 rfl rfl ?_
    refine gM_persons hO dX12_oddsFrom_2 rfl ?_
    refine aw_cg (show m.1 0 25 = μ.1 0 25 from h25) ?_
    refine aw_icmp_ne (tgt := 23) hO dX12_oddsFrom_5 rfl rfl (inRn (by omega)) ⟨by omega, by omega⟩ (fun c5 => ?_) (fun c5 => ?_)
    · exact absurd c5 (by omega)
    · refine aw_aload_n hO dX12_oddsFrom_8 rfl rfl ?_
      refine aw_callVE (as := []) (st := []) hO dX12_oddsFrom_9 rfl (lw_t7 141 rfl rfl) kX12_picked (T := TX12) rfl (by decide) rfl (ctM_picked m (MG_W (MG_N h hF) hE)) (by omega) rfl rfl rfl (Nat.le_of_ble_eq_true rfl) (fun v1 μ2 hq3 => ?_)
      obtain ⟨e_v1, s_μ2⟩ := hq3
      rw [pickM_W hE, h25] at e_v1
      have hA_μ2 := hA_m.sc s_μ2
      have q1 := pickM_rng (wN μ F) (μ.1 0 25).toNat
      rw [← e_v1] at q1
      refine aw_iload_n hO dX12_oddsFrom_12 rfl rfl ?_
      refine aw_icmp_ne (tgt := 21) hO dX12_oddsFrom_13 rfl rfl ⟨by omega, by omega⟩ ⟨by omega, by omega⟩ (fun c13 => ?_) (fun c13 => ?_)
      · refine aw_iconst hO dX12_oddsFrom_21 rfl ?_
        refine aw_iret hO dX12_oddsFrom_22 ?_
        exact ⟨_, rfl, by rw [odF, if_neg (by rw [← e_v1]; exact c13)], by rw [clr_end (by omega)]; exact hA_μ2⟩
      · refine aw_iload hO dX12_oddsFrom_16 rfl rfl ?_
        refine aw_goto (tgt := 22) hO dX12_oddsFrom_18 rfl ?_
        refine aw_iret hO dX12_oddsFrom_22 ?_
        exact ⟨_, rfl, by rw [odF, if_pos (by rw [← e_v1]; exact c13)], by rw [clr_end (by omega)]; exact hA_μ2⟩
  | succ c ih =>
    intro o F pt m ho hF hF31 hp1 hp2 hA_m
    refine ct_intro [some (vR 0), some (vI v), some (vI ((o : Nat) : Int)), some (vI ch), some (vI pt), none, none] RX12 (by decide) rfl XM rfl (Nat.le_of_ble_eq_true rfl) (fun K hO => ?_)
    have hE := hA_m.E
    have h25 : m.1 0 25 = μ.1 0 25 := hE.1.1
    refine aw_iload_n hO dX12_oddsFrom_0 rfl rfl ?_
    refine aw_aload_n hO dX12_oddsFrom_1 rfl rfl ?_
    refine gM_persons hO dX12_oddsFrom_2 rfl ?_
    refine aw_cg (show m.1 0 25 = μ.1 0 25 from h25) ?_
    refine aw_icmp_ne (tgt := 23) hO dX12_oddsFrom_5 rfl rfl (inRn (by omega)) ⟨by omega, by omega⟩ (fun c5 => ?_) (fun c5 => ?_)
    · refine aw_aload_n hO dX12_oddsFrom_23 rfl rfl ?_
      refine aw_iload_n hO dX12_oddsFrom_24 rfl rfl ?_
      refine aw_callVI (as := [vI ((o : Nat) : Int)]) (st := []) hO dX12_oddsFrom_25 rfl (lw_t7 29 rfl rfl) kX12_isAway (T := TX12) rfl (by decide) rfl (ctM_isAway m o) (by omega) rfl rfl rfl (Nat.le_of_ble_eq_true rfl) ?_
      rw [show m.1 17 31 = μ.1 17 31 by rw [hA_m.2.2.1]; exact hF31]
      refine aw_ifz_eq (tgt := 43) hO dX12_oddsFrom_28 rfl rfl (fun c28 => ?_) (fun c28 => ?_)
      · have c28b : hasB (μ.1 17 31) o = false := Bool.eq_false_iff.mpr c28
        have hpt := pt_rng hp1 hp2 hc1 hc2
        refine aw_iload hO dX12_oddsFrom_43 rfl rfl ?_
        refine aw_i2l hO dX12_oddsFrom_45 rfl ⟨by omega, by omega⟩ ?_
        refine aw_iload_n hO dX12_oddsFrom_46 rfl rfl ?_
        refine aw_i2l hO dX12_oddsFrom_47 rfl ⟨by omega, by omega⟩ ?_
        refine aw_lmul hO dX12_oddsFrom_48 rfl ?_
        refine aw_ldc2 (a := 100) hO dX12_oddsFrom_49 rfl (lw_t8 47 rfl rfl) ?_
        refine aw_ldiv hO dX12_oddsFrom_52 rfl ⟨by omega, by omega⟩ ⟨by omega, by omega⟩ (by omega) ?_
        refine aw_l2i hO dX12_oddsFrom_53 rfl ?_
        refine aw_istore (ls' := [some (vR 0), some (vI v), some (vI ((o : Nat) : Int)), some (vI ch), some (vI pt), some (vI (((pt * ch) : Int).tdiv 100)), none]) hO dX12_oddsFrom_54 rfl (Nat.le_of_ble_eq_true rfl) rfl rfl ?_
        refine aw_aload_n hO dX12_oddsFrom_56 rfl rfl ?_
        refine gM_now hO dX12_oddsFrom_57 rfl ?_
        refine aw_iconst hO dX12_oddsFrom_60 rfl ?_
        refine aw_iload_n hO dX12_oddsFrom_61 rfl rfl ?_
        refine aw_iadd hO dX12_oddsFrom_62 rfl ?_
        refine aw_iconst hO dX12_oddsFrom_63 rfl ?_
        refine aw_iastn (N := 218) (i := o) hO dX12_oddsFrom_64 rfl (by decide) rfl (by decide) (by omega) (by omega) ?_
        refine aw_mm (fun μ4 e_μ4 => ?_)
        have hA_μ4 : Ap μ (fu F o 1) μ4 := by rw [e_μ4]; exact hA_m.wr _ _
        refine aw_aload_n hO dX12_oddsFrom_65 rfl rfl ?_
        refine aw_iload_n hO dX12_oddsFrom_66 rfl rfl ?_
        refine aw_iload_n hO dX12_oddsFrom_67 rfl rfl ?_
        refine aw_iconst hO dX12_oddsFrom_68 rfl ?_
        refine aw_iadd hO dX12_oddsFrom_69 rfl ?_
        refine aw_iload_n hO dX12_oddsFrom_70 rfl rfl ?_
        refine aw_iload hO dX12_oddsFrom_71 rfl rfl ?_
        refine aw_stq (st' := [vI (((pt * ch) : Int).tdiv 100), vI ch, vI ((o + 1 : Nat) : Int), vI v, vR 0]) rfl ?_
        refine aw_callVE (as := [vI v, vI (((o + 1) : Nat) : Int), vI ch, vI (((pt * ch) : Int).tdiv 100)]) (st := []) hO dX12_oddsFrom_73 rfl (lw_t8 43 rfl rfl) kX12_oddsFrom (T := TX12) rfl (by decide) rfl (ih (o + 1) (fu F o 1) (((pt * ch) : Int).tdiv 100) μ4 (by omega) (hF.upd (i := o) (fun _ => by omega) (by omega) (by omega) (by omega) (by omega) (by omega) (by omega)) (by rw [fu_ne (by omega)]; exact hF31) (by omega) (by omega) hA_μ4) (by omega) rfl rfl rfl (Nat.le_of_ble_eq_true rfl) (fun v5 μ6 hq7 => ?_)
        obtain ⟨e_v5, hA_μ6⟩ := hq7
        refine aw_istore (ls' := [some (vR 0), some (vI v), some (vI ((o : Nat) : Int)), some (vI ch), some (vI pt), some (vI (((pt * ch) : Int).tdiv 100)), some (vI v5)]) hO dX12_oddsFrom_76 rfl (Nat.le_of_ble_eq_true rfl) rfl rfl ?_
        refine aw_aload_n hO dX12_oddsFrom_78 rfl rfl ?_
        refine gM_now hO dX12_oddsFrom_79 rfl ?_
        refine aw_iconst hO dX12_oddsFrom_82 rfl ?_
        refine aw_iload_n hO dX12_oddsFrom_83 rfl rfl ?_
        refine aw_iadd hO dX12_oddsFrom_84 rfl ?_
        refine aw_iconst hO dX12_oddsFrom_85 rfl ?_
        refine aw_iastn (N := 218) (i := o) hO dX12_oddsFrom_86 rfl (by decide) rfl (by decide) (by omega) (by omega) ?_
        refine aw_mm (fun μ8 e_μ8 => ?_)
        have hA_μ8 : Ap μ (fu (clrM (μ.1 17 31) (μ.1 0 25).toNat (fu F o 1) (o + 1)) o 0) μ8 := by rw [e_μ8]; exact hA_μ6.wr _ _
        have hok1 : NowOK (fu F o 1) := hF.upd (fun _ => by omega) (by omega) (by omega) (by omega) (by omega) (by omega) (by omega)
        have hok2 : NowOK (fu (clrM (μ.1 17 31) (μ.1 0 25).toNat (fu F o 1) (o + 1)) o 0) := (clr_ok (by omega) hok1).upd (fun _ => by omega) (by omega) (by omega) (by omega) (by omega) (by omega) (by omega)
        have h312 : (fu (clrM (μ.1 17 31) (μ.1 0 25).toNat (fu F o 1) (o + 1)) o 0) 31 = μ.1 17 31 := by rw [fu_ne (by omega)]; unfold clrM; rw [if_neg (by omega), fu_ne (by omega)]; exact hF31
        refine aw_iload hO dX12_oddsFrom_87 rfl rfl ?_
        refine aw_aload_n hO dX12_oddsFrom_89 rfl rfl ?_
        refine aw_iload_n hO dX12_oddsFrom_90 rfl rfl ?_
        refine aw_iload_n hO dX12_oddsFrom_91 rfl rfl ?_
        refine aw_iconst hO dX12_oddsFrom_92 rfl ?_
        refine aw_iadd hO dX12_oddsFrom_93 rfl ?_
        refine aw_iload_n hO dX12_oddsFrom_94 rfl rfl ?_
        refine aw_iload hO dX12_oddsFrom_95 rfl rfl ?_
        refine aw_iload hO dX12_oddsFrom_97 rfl rfl ?_
        refine aw_isub hO dX12_oddsFrom_99 rfl ?_
        refine aw_stq (st' := [vI (pt - (((pt * ch) : Int).tdiv 100)), vI ch, vI ((o + 1 : Nat) : Int), vI v, vR 0, vI v5]) rfl ?_
        refine aw_callVE (as := [vI v, vI (((o + 1) : Nat) : Int), vI ch, vI (pt - (((pt * ch) : Int).tdiv 100))]) (st := [vI v5]) hO dX12_oddsFrom_100 rfl (lw_t8 43 rfl rfl) kX12_oddsFrom (T := TX12) rfl (by decide) rfl (ih (o + 1) (fu (clrM (μ.1 17 31) (μ.1 0 25).toNat (fu F o 1) (o + 1)) o 0) (pt - (((pt * ch) : Int).tdiv 100)) μ8 (by omega) hok2 h312 (by omega) (by omega) hA_μ8) (by omega) rfl rfl rfl (Nat.le_of_ble_eq_true rfl) (fun v9 μ10 hq11 => ?_)
        obtain ⟨e_v9, hA_μ10⟩ := hq11
        refine aw_iadd hO dX12_oddsFrom_103 rfl ?_
        refine aw_iret hO dX12_oddsFrom_104 ?_
        exact ⟨_, rfl, by rw [odF, if_neg c28, e_v5, e_v9], by rw [← clr_fin (by omega) c28b]; exact hA_μ10⟩
      · refine aw_aload_n hO dX12_oddsFrom_31 rfl rfl ?_
        refine aw_iload_n hO dX12_oddsFrom_32 rfl rfl ?_
        refine aw_iload_n hO dX12_oddsFrom_33 rfl rfl ?_
        refine aw_iconst hO dX12_oddsFrom_34 rfl ?_
        refine aw_iadd hO dX12_oddsFrom_35 rfl ?_
        refine aw_iload_n hO dX12_oddsFrom_36 rfl rfl ?_
        refine aw_iload hO dX12_oddsFrom_37 rfl rfl ?_
        refine aw_stq (st' := [vI pt, vI ch, vI ((o + 1 : Nat) : Int), vI v, vR 0]) rfl ?_
        refine aw_callVE (as := [vI v, vI (((o + 1) : Nat) : Int), vI ch, vI pt]) (st := []) hO dX12_oddsFrom_39 rfl (lw_t8 43 rfl rfl) kX12_oddsFrom (T := TX12) rfl (by decide) rfl (ih (o + 1) F pt m (by omega) hF hF31 (by omega) (by omega) hA_m) (by omega) rfl rfl rfl (Nat.le_of_ble_eq_true rfl) (fun v12 μ13 hq14 => ?_)
        obtain ⟨e_v12, hA_μ13⟩ := hq14
        refine aw_iret hO dX12_oddsFrom_42 ?_
        exact ⟨_, rfl, by rw [odF, if_pos c28]; exact e_v12, by rw [← clr_away c28]; exact hA_μ13⟩
    · exact absurd c5 (by omega)
theorem dX12_odds_0 : decode cX12_odds 0 = .ok (.aload_n 0, 1) := by decide +kernel
theorem dX12_odds_1 : decode cX12_odds 1 = .ok (.iload_n 1, 1) := by decide +kernel
theorem dX12_odds_2 : decode cX12_odds 2 = .ok (.invokevirtual 313, 3) := by decide +kernel
theorem dX12_odds_5 : decode cX12_odds 5 = .ok (.ifCond .eq 13, 3) := by decide +kernel
theorem dX12_odds_8 : decode cX12_odds 8 = .ok (.iload_n 2, 1) := by decide +kernel
theorem dX12_odds_9 : decode cX12_odds 9 = .ok (.iconst 0, 1) := by decide +kernel
theorem dX12_odds_10 : decode cX12_odds 10 = .ok (.bipush 100, 2) := by decide +kernel
theorem dX12_odds_12 : decode cX12_odds 12 = .ok (.invokestatic 205, 3) := by decide +kernel
theorem dX12_odds_15 : decode cX12_odds 15 = .ok (.ifCond .ne 5, 3) := by decide +kernel
theorem dX12_odds_18 : decode cX12_odds 18 = .ok (.iconst (-1), 1) := by decide +kernel
theorem dX12_odds_19 : decode cX12_odds 19 = .ok (.ireturn, 1) := by decide +kernel
theorem dX12_odds_20 : decode cX12_odds 20 = .ok (.aload_n 0, 1) := by decide +kernel
theorem dX12_odds_21 : decode cX12_odds 21 = .ok (.invokevirtual 358, 3) := by decide +kernel
theorem dX12_odds_24 : decode cX12_odds 24 = .ok (.aload_n 0, 1) := by decide +kernel
theorem dX12_odds_25 : decode cX12_odds 25 = .ok (.iload_n 1, 1) := by decide +kernel
theorem dX12_odds_26 : decode cX12_odds 26 = .ok (.iconst 0, 1) := by decide +kernel
theorem dX12_odds_27 : decode cX12_odds 27 = .ok (.iload_n 2, 1) := by decide +kernel
theorem dX12_odds_28 : decode cX12_odds 28 = .ok (.ldc_w 420, 3) := by decide +kernel
theorem dX12_odds_31 : decode cX12_odds 31 = .ok (.invokevirtual 414, 3) := by decide +kernel
theorem dX12_odds_34 : decode cX12_odds 34 = .ok (.istore_n 3, 1) := by decide +kernel
theorem dX12_odds_35 : decode cX12_odds 35 = .ok (.aload_n 0, 1) := by decide +kernel
theorem dX12_odds_36 : decode cX12_odds 36 = .ok (.invokevirtual 364, 3) := by decide +kernel
theorem dX12_odds_39 : decode cX12_odds 39 = .ok (.iload_n 3, 1) := by decide +kernel
theorem dX12_odds_40 : decode cX12_odds 40 = .ok (.ireturn, 1) := by decide +kernel
set_option maxHeartbeats 4000000 in
set_option maxRecDepth 100000 in
theorem ctM_odds (μ : Mm) (h : MG μ) {v ch : Int} (hv : InR v) (hch : InR ch) : CtE PM 16 yX12_odds cX12_odds 4 (some .int) [vR 0, vI v, vI ch] μ (fun r m => r = (if (0 ≤ v ∧ v < μ.1 0 25) ∧ (0 ≤ ch ∧ ch ≤ 100) then odF μ v ch (μ.1 0 25).toNat 0 (μ.1 17) 1000000000 else -1) ∧ Scr μ m) := by
  refine ct_intro [some (vR 0), some (vI v), some (vI ch), none] RX12 (by decide) rfl XM rfl (Nat.le_of_ble_eq_true rfl) (fun K hO => ?_)
  have hnp := h.1.np
  refine aw_aload_n hO dX12_odds_0 rfl rfl ?_
  refine aw_iload_n hO dX12_odds_1 rfl rfl ?_
  refine aw_callVI (as := [vI v]) (st := []) hO dX12_odds_2 rfl (lw_t7 21 rfl rfl) kX12_isPerson (T := TX12) rfl (by decide) rfl (ctM_isPerson μ h.1 (v := v) hv) (by omega) rfl rfl rfl (Nat.le_of_ble_eq_true rfl) ?_
  refine aw_ifz_eq (tgt := 18) hO dX12_odds_5 rfl rfl (fun c5 => ?_) (fun c5 => ?_)
  · refine aw_iconst hO dX12_odds_18 rfl ?_
    refine aw_iret hO dX12_odds_19 ?_
    exact ⟨_, rfl, by rw [if_neg (fun q => c5 q.1)], Scr.rf⟩
  · refine aw_iload_n hO dX12_odds_8 rfl rfl ?_
    refine aw_iconst hO dX12_odds_9 rfl ?_
    refine aw_bipush hO dX12_odds_10 rfl (by decide) (by decide) ?_
    refine aw_callSI (as := [vI ch, vI 0, vI 100]) (st := []) hO dX12_odds_12 rfl (lw_t6 172 rfl rfl) kX12_in (ctM_in μ ⟨by omega, by omega⟩ (inRlit _) (inRlit _)) (by omega) rfl rfl rfl (Nat.le_of_ble_eq_true rfl) ?_
    refine aw_ifz_ne (tgt := 20) hO dX12_odds_15 rfl rfl (fun c15 => ?_) (fun c15 => ?_)
    · refine aw_aload_n hO dX12_odds_20 rfl rfl ?_
      refine aw_callVV (as := []) (st := []) hO dX12_odds_21 rfl (lw_t7 200 rfl rfl) kX12_putAside (T := TX12) rfl (by decide) rfl (ctM_putAside μ) (by omega) rfl rfl rfl (Nat.le_of_ble_eq_true rfl) (fun μ2 hq3 => ?_)
      have hA_μ2 : Ap μ (μ.1 17) μ2 := by rw [hq3]; exact Ap.put μ
      refine aw_aload_n hO dX12_odds_24 rfl rfl ?_
      refine aw_iload_n hO dX12_odds_25 rfl rfl ?_
      refine aw_iconst hO dX12_odds_26 rfl ?_
      refine aw_iload_n hO dX12_odds_27 rfl rfl ?_
      refine aw_ldcw (a := 1000000000) hO dX12_odds_28 rfl (lw_t8 42 rfl rfl) ?_
      refine aw_stq (st' := [vI 1000000000, vI ch, vI ((0 : Nat) : Int), vI v, vR 0]) rfl ?_
      refine aw_callVE (as := [vI v, vI ((0 : Nat) : Int), vI ch, vI 1000000000]) (st := []) hO dX12_odds_31 rfl (lw_t8 43 rfl rfl) kX12_oddsFrom (T := TX12) rfl (by decide) rfl (ctM_oddsFrom μ h hv c15.1 c15.2 (μ.1 0 25).toNat 0 (μ.1 17) 1000000000 μ2 (by omega) h.1.now rfl (by omega) (by omega) hA_μ2) (by omega) rfl rfl rfl (Nat.le_of_ble_eq_true rfl) (fun v4 μ5 hq6 => ?_)
      obtain ⟨e_v4, hA_μ5⟩ := hq6
      refine aw_istore_n (ls' := [some (vR 0), some (vI v), some (vI ch), some (vI v4)]) hO dX12_odds_34 rfl (Nat.le_of_ble_eq_true rfl) rfl rfl ?_
      refine aw_aload_n hO dX12_odds_35 rfl rfl ?_
      refine aw_callVV (as := []) (st := []) hO dX12_odds_36 rfl (lw_t7 208 rfl rfl) kX12_takeBack (T := TX12) rfl (by decide) rfl (ctM_takeBack μ5) (by omega) rfl rfl rfl (Nat.le_of_ble_eq_true rfl) (fun μ8 hq9 => ?_)
      have hR_μ8 : Scr μ μ8 := by rw [hq9]; exact hA_μ5.back (by intro i hi; unfold clrM; rw [if_neg (by omega)])
      refine aw_iload_n hO dX12_odds_39 rfl rfl ?_
      refine aw_iret hO dX12_odds_40 ?_
      exact ⟨_, rfl, by rw [if_pos ⟨c5, c15⟩]; exact e_v4, hR_μ8⟩
    · refine aw_iconst hO dX12_odds_18 rfl ?_
      refine aw_iret hO dX12_odds_19 ?_
      exact ⟨_, rfl, by rw [if_neg (fun q => c15 q.2)], Scr.rf⟩
