
theorem walk1_W {μ m : Mm} (h25 : m.1 0 25 = μ.1 0 25) (h15 : m.1 15 = μ.1 15) (s : (Nat → Int) × Int) : walk1 m s = walk1 μ s := by
  have e : ∀ v, okW (wN m s.1) v = okW (wN μ s.1) v := fun v => by
    show onWay (s.1 31) (min v (s.1 29)) (max v (s.1 29)) (fun p => m.1 15 (4 * p + 3)) = onWay (s.1 31) (min v (s.1 29)) (max v (s.1 29)) (fun p => μ.1 15 (4 * p + 3))
    rw [h15]
  unfold walk1
  rw [e, h25]
theorem walkK_W {μ m : Mm} (h25 : m.1 0 25 = μ.1 0 25) (h15 : m.1 15 = μ.1 15) (s : (Nat → Int) × Int) : ∀ k, walkK m s k = walkK μ s k
  | 0 => rfl
  | k + 1 => by rw [walkK, walkK, walkK_W h25 h15 s k, walk1_W h25 h15]
theorem drawF_W {μ m : Mm} (h25 : m.1 0 25 = μ.1 0 25) (h30 : m.1 0 30 = μ.1 0 30) (h15 : m.1 15 = μ.1 15) (s : (Nat → Int) × Int) : drawF m s = drawF μ s := by
  unfold drawF
  rw [walkK_W h25 h15]
  unfold fatF feiF
  rw [h25, h30]
def yrsD (μ : Mm) (x : Int) : Nat → ((Nat → Int) × Int) × (Nat → Int) × Int
  | 0 => ((μ.1 17, x), μ.1 19, μ.1 0 35)
  | k + 1 => ((passF (wN μ (drawF μ (yrsD μ x k).1).1), (drawF μ (yrsD μ x k).1).2), kepF (yrsD μ x k).2.1 (yrsD μ x k).1.1 (yrsD μ x k).2.2, kepA (yrsD μ x k).2.2 + 1)
theorem walk1_36 {μ : Mm} (h : MB μ) {s : (Nat → Int) × Int} {i : Nat} (hi : 32 ≤ i) : (walk1 μ s).1 i = s.1 i := by
  have := h.np
  unfold walk1
  dsimp only
  split
  · unfold walkF
    rw [if_neg (by omega), if_neg (by omega), if_neg (by omega)]
  · rfl
theorem walkK_36 {μ : Mm} (h : MB μ) {s : (Nat → Int) × Int} {i : Nat} (hi : 32 ≤ i) : ∀ k, (walkK μ s k).1 i = s.1 i
  | 0 => rfl
  | k + 1 => by rw [walkK, walk1_36 h hi, walkK_36 h hi k]
theorem drawF_36 {μ : Mm} (h : MB μ) (hp : μ.1 0 25 ≠ 0) {s : (Nat → Int) × Int} {i : Nat} (hi : 32 ≤ i) : (drawF μ s).1 i = s.1 i := by
  have hnp := h.np
  have h1 := drw_rng (x := seed1 (walkK μ s 3).2) (j := μ.1 0 25) (by omega)
  have h2 := drw_rng (x := seed1 (seed1 (walkK μ s 3).2)) (j := 2) (by omega)
  have e : (feiF μ (walkK μ s 3)).1 i = s.1 i := by
    unfold feiF
    dsimp only
    rw [fu_ne (by omega), walkK_36 h hi]
  unfold drawF fatF
  split
  · dsimp only
    rw [fu_ne (by omega)]
    exact e
  · exact e
theorem yrsD_ok {μ : Mm} (h : MG μ) (hp : μ.1 0 25 ≠ 0) (ha : 0 ≤ μ.1 0 35 ∧ μ.1 0 35 ≤ 40) (x : Int) : ∀ k : Nat, μ.1 17 36 + k ≤ 999 → NowOK (yrsD μ x k).1.1 ∧ (yrsD μ x k).1.1 36 = μ.1 17 36 + k ∧ (0 ≤ (yrsD μ x k).2.2 ∧ (yrsD μ x k).2.2 ≤ 40)
  | 0, _ => ⟨h.1.now, by simp [yrsD], ha⟩
  | k + 1, hk => by
    obtain ⟨a, b, c⟩ := yrsD_ok h hp ha x k (by omega)
    have hd := drawF_ok h.1 hp a
    have hG := MG_N h hd
    have e36 := drawF_36 h.1 hp (s := (yrsD μ x k).1) (i := 36) (by omega)
    refine ⟨pass_ok hG.1 (by show (drawF μ (yrsD μ x k).1).1 36 ≤ 1099; omega), ?_, ?_⟩
    · show passF (wN μ (drawF μ (yrsD μ x k).1).1) 36 = _
      rw [pass36' hG.1]
      show (drawF μ (yrsD μ x k).1).1 36 + 1 = _
      omega
    · have := kepA_rng c
      show 0 ≤ kepA (yrsD μ x k).2.2 + 1 ∧ kepA (yrsD μ x k).2.2 + 1 ≤ 40
      omega
theorem InY.dr {μ m m2 : Mm} {f kp g : Nat → Int} {a x : Int} (h : InY μ f kp a m) (hm : m2 = mD m (g, x)) : InY μ g kp a m2 := by
  obtain ⟨h1, h2, h3, h4⟩ := h
  subst hm
  refine ⟨mD_17, by rw [mD_nk (by decide)]; exact h2, by rw [mD_nk (by decide)]; exact h3, fun k i e1 e2 e3 e4 e5 => by rw [mD_nk e3]; exact h4 k i e1 e2 e3 e4 e5⟩
theorem dX12_years_0 : decode cX12_years 0 = .ok (.aload_n 0, 1) := by decide +kernel
theorem dX12_years_1 : decode cX12_years 1 = .ok (.getfield 242, 3) := by decide +kernel
theorem dX12_years_4 : decode cX12_years 4 = .ok (.ifCond .eq 11, 3) := by decide +kernel
theorem dX12_years_7 : decode cX12_years 7 = .ok (.aload_n 0, 1) := by decide +kernel
theorem dX12_years_8 : decode cX12_years 8 = .ok (.iload_n 1, 1) := by decide +kernel
theorem dX12_years_9 : decode cX12_years 9 = .ok (.invokevirtual 337, 3) := by decide +kernel
theorem dX12_years_12 : decode cX12_years 12 = .ok (.ifCond .ne 5, 3) := by decide +kernel
theorem dX12_years_15 : decode cX12_years 15 = .ok (.iconst (-1), 1) := by decide +kernel
theorem dX12_years_16 : decode cX12_years 16 = .ok (.ireturn, 1) := by decide +kernel
theorem dX12_years_17 : decode cX12_years 17 = .ok (.aload_n 0, 1) := by decide +kernel
theorem dX12_years_18 : decode cX12_years 18 = .ok (.lload_n 2, 1) := by decide +kernel
theorem dX12_years_19 : decode cX12_years 19 = .ok (.putfield 343, 3) := by decide +kernel
theorem dX12_years_22 : decode cX12_years 22 = .ok (.iconst 0, 1) := by decide +kernel
theorem dX12_years_23 : decode cX12_years 23 = .ok (.istore 4, 2) := by decide +kernel
theorem dX12_years_25 : decode cX12_years 25 = .ok (.iload 4, 2) := by decide +kernel
theorem dX12_years_27 : decode cX12_years 27 = .ok (.iload_n 1, 1) := by decide +kernel
theorem dX12_years_28 : decode cX12_years 28 = .ok (.if_icmp .ge 21, 3) := by decide +kernel
theorem dX12_years_31 : decode cX12_years 31 = .ok (.aload_n 0, 1) := by decide +kernel
theorem dX12_years_32 : decode cX12_years 32 = .ok (.invokevirtual 328, 3) := by decide +kernel
theorem dX12_years_35 : decode cX12_years 35 = .ok (.aload_n 0, 1) := by decide +kernel
theorem dX12_years_36 : decode cX12_years 36 = .ok (.invokevirtual 354, 3) := by decide +kernel
theorem dX12_years_39 : decode cX12_years 39 = .ok (.aload_n 0, 1) := by decide +kernel
theorem dX12_years_40 : decode cX12_years 40 = .ok (.invokevirtual 340, 3) := by decide +kernel
theorem dX12_years_43 : decode cX12_years 43 = .ok (.iinc 4 1, 3) := by decide +kernel
theorem dX12_years_46 : decode cX12_years 46 = .ok (.goto (-21), 3) := by decide +kernel
theorem dX12_years_49 : decode cX12_years 49 = .ok (.aload_n 0, 1) := by decide +kernel
theorem dX12_years_50 : decode cX12_years 50 = .ok (.getfield 58, 3) := by decide +kernel
theorem dX12_years_53 : decode cX12_years 53 = .ok (.bipush 36, 2) := by decide +kernel
theorem dX12_years_55 : decode cX12_years 55 = .ok (.iaload, 1) := by decide +kernel
theorem dX12_years_56 : decode cX12_years 56 = .ok (.ireturn, 1) := by decide +kernel
set_option maxHeartbeats 4000000 in
set_option maxRecDepth 100000 in
theorem ctM_years (μ : Mm) (h : MG μ) (ha : 0 ≤ μ.1 0 35) (ha2 : μ.1 0 35 ≤ 40) (hf : 0 ≤ μ.1 0 30) (hf2 : μ.1 0 30 ≤ 9) {v : Int} (hv : InR v) (x : Int) : CtE PM 11 yX12_years cX12_years 5 (some .int) [vR 0, vI v, vL x] μ (fun r m => if μ.1 0 25 ≠ 0 ∧ (1 ≤ v ∧ v ≤ 60) ∧ μ.1 17 36 + v ≤ 999 then r = (yrsD μ x v.toNat).1.1 36 ∧ InY μ (yrsD μ x v.toNat).1.1 (yrsD μ x v.toNat).2.1 (yrsD μ x v.toNat).2.2 m ∧ m.2.1 = (yrsD μ x v.toNat).1.2 else r = -1 ∧ m = μ) := by
  refine ct_intro [some (vR 0), some (vI v), some (vL x), none, none] RX12 (by decide) rfl XM rfl (Nat.le_of_ble_eq_true rfl) (fun K hO => ?_)
  have hnp := h.1.np
  have hr := h.1.now.rest
  have lp : (μ.1 0 25 ≠ 0 ∧ (1 ≤ v ∧ v ≤ 60) ∧ μ.1 17 36 + v ≤ 999) → ∀ (c k : Nat) (m : Mm), ((k : Int) + c = v) → InY μ (yrsD μ x k).1.1 (yrsD μ x k).2.1 (yrsD μ x k).2.2 m → m.2.1 = (yrsD μ x k).1.2 → AW K 25 [some (vR 0), some (vI v), some (vL x), none, some (vI ((k : Nat) : Int))] [] m := by
    intro hw c
    induction c with
    | zero =>
      intro k m hk hm hx
      have hy := yrsD_ok h hw.1 ⟨ha, ha2⟩ x k (by omega)
      refine aw_iload hO dX12_years_25 rfl rfl ?_
      refine aw_iload_n hO dX12_years_27 rfl rfl ?_
      refine aw_icmp_ge (tgt := 49) hO dX12_years_28 rfl rfl (inRn (by omega)) ⟨by omega, by omega⟩ (fun c28 => ?_) (fun c28 => ?_)
      · refine aw_aload_n hO dX12_years_49 rfl rfl ?_
        refine gM_now hO dX12_years_50 rfl ?_
        refine aw_bipush hO dX12_years_53 rfl (by decide) (by decide) ?_
        refine aw_ialdn (N := 218) (i := 36) hO dX12_years_55 rfl (by decide) rfl (by decide) rfl (by decide) ?_
        refine aw_iret hO dX12_years_56 ?_
        exact ⟨_, rfl, by dsimp only; rw [if_pos hw, show v.toNat = k by omega]; exact ⟨congrFun hm.1 36, hm, hx⟩⟩
      · exact absurd c28 (by omega)
    | succ c ih =>
      intro k m hk hm hx
      have hy := yrsD_ok h hw.1 ⟨ha, ha2⟩ x k (by omega)
      refine aw_iload hO dX12_years_25 rfl rfl ?_
      refine aw_iload_n hO dX12_years_27 rfl rfl ?_
      refine aw_icmp_ge (tgt := 49) hO dX12_years_28 rfl rfl (inRn (by omega)) ⟨by omega, by omega⟩ (fun c28 => ?_) (fun c28 => ?_)
      · exact absurd c28 (by omega)
      · refine aw_aload_n hO dX12_years_31 rfl rfl ?_
        refine aw_callVV (as := []) (st := []) hO dX12_years_32 rfl (lw_t7 63 rfl rfl) kX12_keep (T := TX12) rfl (by decide) rfl (ctM_keep m (by rw [hm.2.2.1]; exact hy.2.2.1) (by rw [hm.2.2.1]; exact hy.2.2.2)) (by decide) rfl rfl rfl (Nat.le_of_ble_eq_true rfl) (fun μ2 hq3 => ?_)
        have hkm : μ2 = kepM m := hq3
        have hmk : InY μ (yrsD μ x k).1.1 (kepF (yrsD μ x k).2.1 (yrsD μ x k).1.1 (yrsD μ x k).2.2) (kepA (yrsD μ x k).2.2 + 1) μ2 := by rw [hkm]; exact hm.kep
        have hxk : μ2.2.1 = (yrsD μ x k).1.2 := by rw [hkm]; exact hx
        refine aw_aload_n hO dX12_years_35 rfl rfl ?_
        refine aw_callVV (as := []) (st := []) hO dX12_years_36 rfl (lw_t7 161 rfl rfl) kX12_drawYear (T := TX12) rfl (by decide) rfl (ctM_drawYear μ2 (MG_W (MG_N h hy.1) hmk.E) (by rw [hmk.2.2.2 0 25 (by decide) (by decide) (by decide) (by decide) (by decide)]; exact hw.1) (by rw [hmk.2.2.2 0 30 (by decide) (by decide) (by decide) (by decide) (by decide)]; exact hf) (by rw [hmk.2.2.2 0 30 (by decide) (by decide) (by decide) (by decide) (by decide)]; exact hf2)) (by decide) rfl rfl rfl (Nat.le_of_ble_eq_true rfl) (fun μ5 hq6 => ?_)
        have hD : μ5 = mD μ2 (drawF μ (yrsD μ x k).1) := by rw [hq6, drawF_W (hmk.2.2.2 0 25 (by decide) (by decide) (by decide) (by decide) (by decide)) (hmk.2.2.2 0 30 (by decide) (by decide) (by decide) (by decide) (by decide)) (funext fun i => hmk.2.2.2 15 i (by decide) (by decide) (by decide) (by decide) (by omega)), hmk.1, hxk]
        have hmd := InY.dr (g := (drawF μ (yrsD μ x k).1).1) (x := (drawF μ (yrsD μ x k).1).2) hmk hD
        have hxd : μ5.2.1 = (drawF μ (yrsD μ x k).1).2 := by rw [hD]; rfl
        refine aw_aload_n hO dX12_years_39 rfl rfl ?_
        refine aw_callVV (as := []) (st := []) hO dX12_years_40 rfl (lw_t7 96 rfl rfl) kX12_passYear (T := TX12) rfl (by decide) rfl (ctM_passYear μ5 (MG_W (MG_N h (drawF_ok h.1 hw.1 hy.1)) hmd.E) (by rw [hmd.1, drawF_36 h.1 hw.1 (by omega)]; have := hy.2.1; omega)) (by decide) rfl rfl rfl (Nat.le_of_ble_eq_true rfl) (fun μ8 hq9 => ?_)
        have hp := hq9
        refine aw_iinc (ls' := [some (vR 0), some (vI v), some (vL x), none, some (vI (((k : Nat) : Int) + 1))]) hO dX12_years_43 rfl rfl rfl rfl ?_
        refine aw_lsq (ls' := [some (vR 0), some (vI v), some (vL x), none, some (vI (((k + 1) : Nat) : Int))]) rfl ?_
        refine aw_goto (tgt := 25) hO dX12_years_46 rfl ?_
        refine aw_lsq (ls' := [some (vR 0), some (vI v), some (vL x), none, some (vI (((k + 1) : Nat) : Int))]) rfl ?_
        exact ih (k + 1) μ8 (by omega) (InY.pass hmd hp) (by rw [hp.2.2, hxd]; rfl)
  refine aw_aload_n hO dX12_years_0 rfl rfl ?_
  refine gM_persons hO dX12_years_1 rfl ?_
  refine aw_if_eq (tgt := 15) hO dX12_years_4 rfl rfl ⟨by omega, by omega⟩ (fun c4 => ?_) (fun c4 => ?_)
  · refine aw_iconst hO dX12_years_15 rfl ?_
    refine aw_iret hO dX12_years_16 ?_
    exact ⟨_, rfl, by dsimp only; rw [if_neg (fun q => q.1 c4)]; exact ⟨rfl, rfl⟩⟩
  · refine aw_aload_n hO dX12_years_7 rfl rfl ?_
    refine aw_iload_n hO dX12_years_8 rfl rfl ?_
    refine aw_callVI (as := [vI v]) (st := []) hO dX12_years_9 rfl (lw_t7 92 rfl rfl) kX12_areYears (T := TX12) rfl (by decide) rfl (ctM_areYears μ h.1 (v := v) hv) (by decide) rfl rfl rfl (Nat.le_of_ble_eq_true rfl) ?_
    refine aw_ifz_ne (tgt := 17) hO dX12_years_12 rfl rfl (fun c12 => ?_) (fun c12 => ?_)
    · refine aw_aload_n hO dX12_years_17 rfl rfl ?_
      refine aw_lload_n hO dX12_years_18 rfl rfl ?_
      refine pM_draws hO dX12_years_19 rfl ?_
      refine aw_mm (fun μ10 e_μ10 => ?_)
      refine aw_iconst hO dX12_years_22 rfl ?_
      refine aw_istore (ls' := [some (vR 0), some (vI v), some (vL x), none, some (vI 0)]) hO dX12_years_23 rfl (Nat.le_of_ble_eq_true rfl) rfl rfl ?_
      refine aw_lsq (ls' := [some (vR 0), some (vI v), some (vL x), none, some (vI ((0 : Nat) : Int))]) rfl ?_
      exact lp ⟨c4, c12.1, c12.2⟩ v.toNat 0 μ10 (by omega) (by rw [e_μ10]; exact ⟨rfl, rfl, rfl, fun _ _ _ _ _ _ _ => rfl⟩) (by rw [e_μ10]; rfl)
    · refine aw_iconst hO dX12_years_15 rfl ?_
      refine aw_iret hO dX12_years_16 ?_
      exact ⟨_, rfl, by dsimp only; rw [if_neg (fun q => c12 ⟨q.2.1, q.2.2⟩)]; exact ⟨rfl, rfl⟩⟩
theorem dX12_person_0 : decode cX12_person 0 = .ok (.aload_n 0, 1) := by decide +kernel
theorem dX12_person_1 : decode cX12_person 1 = .ok (.aload_n 0, 1) := by decide +kernel
theorem dX12_person_2 : decode cX12_person 2 = .ok (.iload_n 1, 1) := by decide +kernel
theorem dX12_person_3 : decode cX12_person 3 = .ok (.invokevirtual 313, 3) := by decide +kernel
theorem dX12_person_6 : decode cX12_person 6 = .ok (.ifCond .eq 17, 3) := by decide +kernel
theorem dX12_person_9 : decode cX12_person 9 = .ok (.iload_n 2, 1) := by decide +kernel
theorem dX12_person_10 : decode cX12_person 10 = .ok (.iconst 0, 1) := by decide +kernel
theorem dX12_person_11 : decode cX12_person 11 = .ok (.bipush 6, 2) := by decide +kernel
theorem dX12_person_13 : decode cX12_person 13 = .ok (.invokestatic 205, 3) := by decide +kernel
theorem dX12_person_16 : decode cX12_person 16 = .ok (.ifCond .eq 7, 3) := by decide +kernel
theorem dX12_person_19 : decode cX12_person 19 = .ok (.iconst 0, 1) := by decide +kernel
theorem dX12_person_20 : decode cX12_person 20 = .ok (.goto 4, 3) := by decide +kernel
theorem dX12_person_23 : decode cX12_person 23 = .ok (.iconst 1, 1) := by decide +kernel
theorem dX12_person_24 : decode cX12_person 24 = .ok (.putfield 90, 3) := by decide +kernel
theorem dX12_person_27 : decode cX12_person 27 = .ok (.aload_n 0, 1) := by decide +kernel
theorem dX12_person_28 : decode cX12_person 28 = .ok (.getfield 90, 3) := by decide +kernel
theorem dX12_person_31 : decode cX12_person 31 = .ok (.iconst 1, 1) := by decide +kernel
theorem dX12_person_32 : decode cX12_person 32 = .ok (.if_icmp .ne 5, 3) := by decide +kernel
theorem dX12_person_35 : decode cX12_person 35 = .ok (.iconst 0, 1) := by decide +kernel
theorem dX12_person_36 : decode cX12_person 36 = .ok (.ireturn, 1) := by decide +kernel
theorem dX12_person_37 : decode cX12_person 37 = .ok (.iload_n 2, 1) := by decide +kernel
theorem dX12_person_38 : decode cX12_person 38 = .ok (.tableswitch 70 3 6 #[30, 37, 46, 60], 30) := by decide +kernel
theorem dX12_person_68 : decode cX12_person 68 = .ok (.aload_n 0, 1) := by decide +kernel
theorem dX12_person_69 : decode cX12_person 69 = .ok (.iload_n 1, 1) := by decide +kernel
theorem dX12_person_70 : decode cX12_person 70 = .ok (.iconst 3, 1) := by decide +kernel
theorem dX12_person_71 : decode cX12_person 71 = .ok (.invokevirtual 264, 3) := by decide +kernel
theorem dX12_person_74 : decode cX12_person 74 = .ok (.ireturn, 1) := by decide +kernel
theorem dX12_person_75 : decode cX12_person 75 = .ok (.aload_n 0, 1) := by decide +kernel
theorem dX12_person_76 : decode cX12_person 76 = .ok (.getfield 58, 3) := by decide +kernel
theorem dX12_person_79 : decode cX12_person 79 = .ok (.iconst 0, 1) := by decide +kernel
theorem dX12_person_80 : decode cX12_person 80 = .ok (.iload_n 1, 1) := by decide +kernel
theorem dX12_person_81 : decode cX12_person 81 = .ok (.iadd, 1) := by decide +kernel
theorem dX12_person_82 : decode cX12_person 82 = .ok (.iaload, 1) := by decide +kernel
theorem dX12_person_83 : decode cX12_person 83 = .ok (.ireturn, 1) := by decide +kernel
theorem dX12_person_84 : decode cX12_person 84 = .ok (.aload_n 0, 1) := by decide +kernel
theorem dX12_person_85 : decode cX12_person 85 = .ok (.iload_n 1, 1) := by decide +kernel
theorem dX12_person_86 : decode cX12_person 86 = .ok (.invokevirtual 280, 3) := by decide +kernel
theorem dX12_person_89 : decode cX12_person 89 = .ok (.ifCond .eq 7, 3) := by decide +kernel
theorem dX12_person_92 : decode cX12_person 92 = .ok (.iconst 1, 1) := by decide +kernel
theorem dX12_person_93 : decode cX12_person 93 = .ok (.goto 4, 3) := by decide +kernel
theorem dX12_person_96 : decode cX12_person 96 = .ok (.iconst 0, 1) := by decide +kernel
theorem dX12_person_97 : decode cX12_person 97 = .ok (.ireturn, 1) := by decide +kernel
theorem dX12_person_98 : decode cX12_person 98 = .ok (.aload_n 0, 1) := by decide +kernel
theorem dX12_person_99 : decode cX12_person 99 = .ok (.getfield 58, 3) := by decide +kernel
theorem dX12_person_102 : decode cX12_person 102 = .ok (.bipush 18, 2) := by decide +kernel
theorem dX12_person_104 : decode cX12_person 104 = .ok (.iload_n 1, 1) := by decide +kernel
theorem dX12_person_105 : decode cX12_person 105 = .ok (.iadd, 1) := by decide +kernel
theorem dX12_person_106 : decode cX12_person 106 = .ok (.iaload, 1) := by decide +kernel
theorem dX12_person_107 : decode cX12_person 107 = .ok (.ireturn, 1) := by decide +kernel
theorem dX12_person_108 : decode cX12_person 108 = .ok (.aload_n 0, 1) := by decide +kernel
theorem dX12_person_109 : decode cX12_person 109 = .ok (.iload_n 1, 1) := by decide +kernel
theorem dX12_person_110 : decode cX12_person 110 = .ok (.iload_n 2, 1) := by decide +kernel
theorem dX12_person_111 : decode cX12_person 111 = .ok (.invokevirtual 271, 3) := by decide +kernel
theorem dX12_person_114 : decode cX12_person 114 = .ok (.ireturn, 1) := by decide +kernel
def perM (μ : Mm) (v u : Int) : Int := if u = 3 then μ.1 15 (4 * v.toNat + 3) else if u = 4 then μ.1 17 v.toNat else if u = 5 then (if hasB (μ.1 17 31) v.toNat = true then 1 else 0) else if u = 6 then μ.1 17 (18 + v.toNat) else seemsM μ v.toNat u.toNat
set_option maxHeartbeats 4000000 in
set_option maxRecDepth 100000 in
theorem ctM_person (μ : Mm) (h : MB μ) {v u : Int} (hv : InR v) (hu : InR u) : CtE PM 2 yX12_person cX12_person 3 (some .int) [vR 0, vI v, vI u] μ (fun r m => ((0 ≤ v ∧ v < μ.1 0 25) ∧ (0 ≤ u ∧ u ≤ 6) → r = perM μ v u) ∧ m = mst μ 0 0 (if (0 ≤ v ∧ v < μ.1 0 25) ∧ (0 ≤ u ∧ u ≤ 6) then 0 else 1)) := by
  refine ct_intro [some (vR 0), some (vI v), some (vI u)] RX12 (by decide) rfl XM rfl (Nat.le_of_ble_eq_true rfl) (fun K hO => ?_)
  have hnp := h.np
  have j : AW K 24 [some (vR 0), some (vI v), some (vI u)] [vI (if (0 ≤ v ∧ v < μ.1 0 25) ∧ (0 ≤ u ∧ u ≤ 6) then 0 else 1), vR 0] μ := by
    refine pM_thrown hO dX12_person_24 rfl ?_
    refine aw_mm (fun μ1 e_μ1 => ?_)
    refine aw_aload_n hO dX12_person_27 rfl rfl ?_
    refine gM_thrown hO dX12_person_28 rfl ?_
    refine aw_cg (show μ1.1 0 0 = (if (0 ≤ v ∧ v < μ.1 0 25) ∧ (0 ≤ u ∧ u ≤ 6) then 0 else 1) by rw [e_μ1, mst_eq]) ?_
    refine aw_iconst hO dX12_person_31 rfl ?_
    refine aw_icmp_ne (tgt := 37) hO dX12_person_32 rfl rfl ⟨by split <;> omega, by split <;> omega⟩ (inRlit _) (fun c32 => ?_) (fun c32 => ?_)
    · have hpp : (0 ≤ v ∧ v < μ.1 0 25) ∧ (0 ≤ u ∧ u ≤ 6) := Classical.byContradiction (fun q => c32 (if_neg q))
      refine aw_iload_n hO dX12_person_37 rfl rfl ?_
      have hvp : 0 ≤ v ∧ v < μ.1 0 25 := hpp.1
      have hu6 : 0 ≤ u ∧ u ≤ 6 := hpp.2
      by_cases hc3 : u = 3
      · refine aw_tableIn (tgt := 68) hO dX12_person_38 ⟨by omega, by omega⟩ (by omega) (by omega) (by rw [hc3]; rfl) rfl ?_
        refine aw_aload_n hO dX12_person_68 rfl rfl ?_
        refine aw_iload_n hO dX12_person_69 rfl rfl ?_
        refine aw_iconst hO dX12_person_70 rfl ?_
        refine aw_stq (st' := [vI 3, vI ((v.toNat : Nat) : Int), vR 0]) (by rw [Int.toNat_of_nonneg (by omega)]) ?_
        refine aw_callVI (as := [vI ((v.toNat : Nat) : Int), vI 3]) (st := []) hO dX12_person_71 rfl (lw_t7 25 rfl rfl) kX12_of (T := TX12) rfl (by decide) rfl (ctM_of μ1 (p := v.toNat) (k := 3) (by omega) (by omega)) (by decide) rfl rfl rfl (Nat.le_of_ble_eq_true rfl) ?_
        refine aw_iret hO dX12_person_74 ?_
        exact ⟨_, rfl, ⟨fun _ => by unfold perM; rw [if_pos hc3, e_μ1, mst_nk (by decide)], by rw [e_μ1]⟩⟩
      by_cases hc4 : u = 4
      · refine aw_tableIn (tgt := 75) hO dX12_person_38 ⟨by omega, by omega⟩ (by omega) (by omega) (by rw [hc4]; rfl) rfl ?_
        refine aw_aload_n hO dX12_person_75 rfl rfl ?_
        refine gM_now hO dX12_person_76 rfl ?_
        refine aw_iconst hO dX12_person_79 rfl ?_
        refine aw_iload_n hO dX12_person_80 rfl rfl ?_
        refine aw_iadd hO dX12_person_81 rfl ?_
        refine aw_ialdn (N := 218) (i := v.toNat) hO dX12_person_82 rfl (by decide) rfl (by decide) (by omega) (by omega) ?_
        refine aw_cg (show μ1.1 17 v.toNat = μ.1 17 v.toNat by rw [e_μ1, mst_nk (by decide)]) ?_
        refine aw_iret hO dX12_person_83 ?_
        exact ⟨_, rfl, ⟨fun _ => by unfold perM; rw [if_neg hc3, if_pos hc4], by rw [e_μ1]⟩⟩
      by_cases hc5 : u = 5
      · refine aw_tableIn (tgt := 84) hO dX12_person_38 ⟨by omega, by omega⟩ (by omega) (by omega) (by rw [hc5]; rfl) rfl ?_
        refine aw_aload_n hO dX12_person_84 rfl rfl ?_
        refine aw_iload_n hO dX12_person_85 rfl rfl ?_
        refine aw_stq (st' := [vI ((v.toNat : Nat) : Int), vR 0]) (by rw [Int.toNat_of_nonneg (by omega)]) ?_
        refine aw_callVI (as := [vI ((v.toNat : Nat) : Int)]) (st := []) hO dX12_person_86 rfl (lw_t7 29 rfl rfl) kX12_isAway (T := TX12) rfl (by decide) rfl (ctM_isAway μ1 v.toNat) (by decide) rfl rfl rfl (Nat.le_of_ble_eq_true rfl) ?_
        rw [show μ1.1 17 31 = μ.1 17 31 by rw [e_μ1, mst_nk (by decide)]]
        refine aw_ifz_eq (tgt := 96) hO dX12_person_89 rfl rfl (fun c89 => ?_) (fun c89 => ?_)
        · refine aw_iconst hO dX12_person_96 rfl ?_
          refine aw_iret hO dX12_person_97 ?_
          exact ⟨_, rfl, ⟨fun _ => by unfold perM; rw [if_neg hc3, if_neg hc4, if_pos hc5, if_neg c89], by rw [e_μ1]⟩⟩
        · refine aw_iconst hO dX12_person_92 rfl ?_
          refine aw_goto (tgt := 97) hO dX12_person_93 rfl ?_
          refine aw_iret hO dX12_person_97 ?_
          exact ⟨_, rfl, ⟨fun _ => by unfold perM; rw [if_neg hc3, if_neg hc4, if_pos hc5, if_pos c89], by rw [e_μ1]⟩⟩
      by_cases hc6 : u = 6
      · refine aw_tableIn (tgt := 98) hO dX12_person_38 ⟨by omega, by omega⟩ (by omega) (by omega) (by rw [hc6]; rfl) rfl ?_
        refine aw_aload_n hO dX12_person_98 rfl rfl ?_
        refine gM_now hO dX12_person_99 rfl ?_
        refine aw_bipush hO dX12_person_102 rfl (by decide) (by decide) ?_
        refine aw_iload_n hO dX12_person_104 rfl rfl ?_
        refine aw_iadd hO dX12_person_105 rfl ?_
        refine aw_ialdn (N := 218) (i := (18 + v.toNat)) hO dX12_person_106 rfl (by decide) rfl (by decide) (by omega) (by omega) ?_
        refine aw_cg (show μ1.1 17 (18 + v.toNat) = μ.1 17 (18 + v.toNat) by rw [e_μ1, mst_nk (by decide)]) ?_
        refine aw_iret hO dX12_person_107 ?_
        exact ⟨_, rfl, ⟨fun _ => by unfold perM; rw [if_neg hc3, if_neg hc4, if_neg hc5, if_pos hc6], by rw [e_μ1]⟩⟩
      refine aw_tableOut (tgt := 108) hO dX12_person_38 ⟨by omega, by omega⟩ (by omega) rfl ?_
      refine aw_aload_n hO dX12_person_108 rfl rfl ?_
      refine aw_iload_n hO dX12_person_109 rfl rfl ?_
      refine aw_iload_n hO dX12_person_110 rfl rfl ?_
      refine aw_stq (st' := [vI ((u.toNat : Nat) : Int), vI ((v.toNat : Nat) : Int), vR 0]) (by rw [Int.toNat_of_nonneg (by omega), Int.toNat_of_nonneg (by omega)]) ?_
      refine aw_callVI (as := [vI ((v.toNat : Nat) : Int), vI ((u.toNat : Nat) : Int)]) (st := []) hO dX12_person_111 rfl (lw_t7 33 rfl rfl) kX12_seems (T := TX12) rfl (by decide) rfl (ctM_seems μ1 (MB_eq h (by rw [e_μ1, mst_ni (by decide)]) (by rw [e_μ1, mst_ni (by decide)]) (by rw [e_μ1, mst_row, mrow_nk (by decide)]) (by rw [e_μ1, mst_row, mrow_nk (by decide)]) (by rw [e_μ1, mst_row, mrow_nk (by decide)]) (by rw [e_μ1, mst_row, mrow_nk (by decide)])) (p := v.toNat) (k := u.toNat) (by omega) (by omega)) (by decide) rfl rfl rfl (Nat.le_of_ble_eq_true rfl) ?_
      refine aw_iret hO dX12_person_114 ?_
      exact ⟨_, rfl, ⟨fun _ => by unfold perM; rw [if_neg hc3, if_neg hc4, if_neg hc5, if_neg hc6]; unfold seemsM; rw [e_μ1, mst_row, mrow_nk (k' := 15) (by decide), mrow_nk (k' := 17) (by decide)], by rw [e_μ1]⟩⟩
    · have hpp : ¬ ((0 ≤ v ∧ v < μ.1 0 25) ∧ (0 ≤ u ∧ u ≤ 6)) := fun q => by rw [if_pos q] at c32; omega
      refine aw_iconst hO dX12_person_35 rfl ?_
      refine aw_iret hO dX12_person_36 ?_
      exact ⟨_, rfl, ⟨fun q => absurd q hpp, by rw [e_μ1]⟩⟩
  refine aw_aload_n hO dX12_person_0 rfl rfl ?_
  refine aw_aload_n hO dX12_person_1 rfl rfl ?_
  refine aw_iload_n hO dX12_person_2 rfl rfl ?_
  refine aw_callVI (as := [vI v]) (st := [vR 0]) hO dX12_person_3 rfl (lw_t7 21 rfl rfl) kX12_isPerson (T := TX12) rfl (by decide) rfl (ctM_isPerson μ h (v := v) hv) (by decide) rfl rfl rfl (Nat.le_of_ble_eq_true rfl) ?_
  refine aw_ifz_eq (tgt := 23) hO dX12_person_6 rfl rfl (fun c6 => ?_) (fun c6 => ?_)
  · refine aw_iconst hO dX12_person_23 rfl ?_
    refine aw_cg (show (1 : Int) = (if (0 ≤ v ∧ v < μ.1 0 25) ∧ (0 ≤ u ∧ u ≤ 6) then 0 else 1) by rw [if_neg (fun q => c6 q.1)]) ?_
    exact j
  · refine aw_iload_n hO dX12_person_9 rfl rfl ?_
    refine aw_iconst hO dX12_person_10 rfl ?_
    refine aw_bipush hO dX12_person_11 rfl (by decide) (by decide) ?_
    refine aw_callSI (as := [vI u, vI 0, vI 6]) (st := [vR 0]) hO dX12_person_13 rfl (lw_t6 172 rfl rfl) kX12_in (ctM_in μ ⟨by omega, by omega⟩ (inRlit _) (inRlit _)) (by decide) rfl rfl rfl (Nat.le_of_ble_eq_true rfl) ?_
    refine aw_ifz_eq (tgt := 23) hO dX12_person_16 rfl rfl (fun c16 => ?_) (fun c16 => ?_)
    · refine aw_iconst hO dX12_person_23 rfl ?_
      refine aw_cg (show (1 : Int) = (if (0 ≤ v ∧ v < μ.1 0 25) ∧ (0 ≤ u ∧ u ≤ 6) then 0 else 1) by rw [if_neg (fun q => c16 q.2)]) ?_
      exact j
    · refine aw_iconst hO dX12_person_19 rfl ?_
      refine aw_goto (tgt := 24) hO dX12_person_20 rfl ?_
      refine aw_cg (show (0 : Int) = (if (0 ≤ v ∧ v < μ.1 0 25) ∧ (0 ≤ u ∧ u ≤ 6) then 0 else 1) by rw [if_pos ⟨c6, c16⟩]) ?_
      exact j
