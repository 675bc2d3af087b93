theorem dX12_isRefused_0 : decode cX12_isRefused 0 = .ok (.iload_n 1, 1) := by decide +kernel
theorem dX12_isRefused_1 : decode cX12_isRefused 1 = .ok (.iconst (-1), 1) := by decide +kernel
theorem dX12_isRefused_2 : decode cX12_isRefused 2 = .ok (.if_icmp .eq 13, 3) := by decide +kernel
theorem dX12_isRefused_5 : decode cX12_isRefused 5 = .ok (.aload_n 0, 1) := by decide +kernel
theorem dX12_isRefused_6 : decode cX12_isRefused 6 = .ok (.getfield 61, 3) := by decide +kernel
theorem dX12_isRefused_9 : decode cX12_isRefused 9 = .ok (.iload_n 1, 1) := by decide +kernel
theorem dX12_isRefused_10 : decode cX12_isRefused 10 = .ok (.dup2, 1) := by decide +kernel
theorem dX12_isRefused_11 : decode cX12_isRefused 11 = .ok (.iaload, 1) := by decide +kernel
theorem dX12_isRefused_12 : decode cX12_isRefused 12 = .ok (.iconst 1, 1) := by decide +kernel
theorem dX12_isRefused_13 : decode cX12_isRefused 13 = .ok (.iadd, 1) := by decide +kernel
theorem dX12_isRefused_14 : decode cX12_isRefused 14 = .ok (.iastore, 1) := by decide +kernel
theorem dX12_isRefused_15 : decode cX12_isRefused 15 = .ok (.iload_n 1, 1) := by decide +kernel
theorem dX12_isRefused_16 : decode cX12_isRefused 16 = .ok (.iconst (-1), 1) := by decide +kernel
theorem dX12_isRefused_17 : decode cX12_isRefused 17 = .ok (.if_icmp .eq 7, 3) := by decide +kernel
theorem dX12_isRefused_20 : decode cX12_isRefused 20 = .ok (.iconst 1, 1) := by decide +kernel
theorem dX12_isRefused_21 : decode cX12_isRefused 21 = .ok (.goto 4, 3) := by decide +kernel
theorem dX12_isRefused_24 : decode cX12_isRefused 24 = .ok (.iconst 0, 1) := by decide +kernel
theorem dX12_isRefused_25 : decode cX12_isRefused 25 = .ok (.ireturn, 1) := by decide +kernel
set_option maxHeartbeats 4000000 in
set_option maxRecDepth 100000 in
theorem ctM_isRefused (μ : Mm) {v : Int} (hv : -1 ≤ v) (hv2 : v ≤ 4) : CtE PM 0 yX12_isRefused cX12_isRefused 2 (some .boolean) [vR 0, vI v] μ (fun r m => r = (if v = -1 then 0 else 1) ∧ m = (if v = -1 then μ else mst μ 18 v.toNat (μ.1 18 v.toNat + 1))) := by
  refine ct_intro [some (vR 0), some (vI v)] RX12 (by decide) rfl XM rfl (Nat.le_of_ble_eq_true rfl) (fun K hO => ?_)
  refine aw_iload_n hO dX12_isRefused_0 rfl rfl ?_
  refine aw_iconst hO dX12_isRefused_1 rfl ?_
  refine aw_icmp_eq (tgt := 15) hO dX12_isRefused_2 rfl rfl ⟨by omega, by omega⟩ (inRlit _) (fun c2 => ?_) (fun c2 => ?_)
  · refine aw_iload_n hO dX12_isRefused_15 rfl rfl ?_
    refine aw_iconst hO dX12_isRefused_16 rfl ?_
    refine aw_icmp_eq (tgt := 24) hO dX12_isRefused_17 rfl rfl ⟨by omega, by omega⟩ (inRlit _) (fun c17 => ?_) (fun c17 => ?_)
    · refine aw_iconst hO dX12_isRefused_24 rfl ?_
      refine aw_zret hO dX12_isRefused_25 (by omega) ?_
      exact ⟨_, rfl, by rw [if_pos c2], by rw [if_pos c2]⟩
    · exact absurd c17 (by omega)
  · refine aw_aload_n hO dX12_isRefused_5 rfl rfl ?_
    refine gM_refused hO dX12_isRefused_6 rfl ?_
    refine aw_iload_n hO dX12_isRefused_9 rfl rfl ?_
    refine aw_dup2 hO dX12_isRefused_10 rfl rfl rfl ?_
    refine aw_ialdn (N := 5) (i := (v).toNat) hO dX12_isRefused_11 rfl (by decide) rfl (by decide) (Int.toNat_of_nonneg (by omega)).symm (by omega) ?_
    refine aw_iconst hO dX12_isRefused_12 rfl ?_
    refine aw_iadd hO dX12_isRefused_13 rfl ?_
    refine aw_iastn (N := 5) (i := (v).toNat) hO dX12_isRefused_14 rfl (by decide) rfl (by decide) (Int.toNat_of_nonneg (by omega)).symm (by omega) ?_
    refine aw_mm (fun μ1 e_μ1 => ?_)
    refine aw_iload_n hO dX12_isRefused_15 rfl rfl ?_
    refine aw_iconst hO dX12_isRefused_16 rfl ?_
    refine aw_icmp_eq (tgt := 24) hO dX12_isRefused_17 rfl rfl ⟨by omega, by omega⟩ (inRlit _) (fun c17 => ?_) (fun c17 => ?_)
    · exact absurd c17 (by omega)
    · refine aw_iconst hO dX12_isRefused_20 rfl ?_
      refine aw_goto (tgt := 25) hO dX12_isRefused_21 rfl ?_
      refine aw_zret hO dX12_isRefused_25 (by omega) ?_
      exact ⟨_, rfl, by rw [if_neg c2], by rw [if_neg c2]; exact e_μ1⟩
theorem dX12_draw_0 : decode cX12_draw 0 = .ok (.aload_n 0, 1) := by decide +kernel
theorem dX12_draw_1 : decode cX12_draw 1 = .ok (.aload_n 0, 1) := by decide +kernel
theorem dX12_draw_2 : decode cX12_draw 2 = .ok (.getfield 343, 3) := by decide +kernel
theorem dX12_draw_5 : decode cX12_draw 5 = .ok (.ldc2_w 347, 3) := by decide +kernel
theorem dX12_draw_8 : decode cX12_draw 8 = .ok (.lmul, 1) := by decide +kernel
theorem dX12_draw_9 : decode cX12_draw 9 = .ok (.ldc2_w 349, 3) := by decide +kernel
theorem dX12_draw_12 : decode cX12_draw 12 = .ok (.ladd, 1) := by decide +kernel
theorem dX12_draw_13 : decode cX12_draw 13 = .ok (.putfield 343, 3) := by decide +kernel
theorem dX12_draw_16 : decode cX12_draw 16 = .ok (.aload_n 0, 1) := by decide +kernel
theorem dX12_draw_17 : decode cX12_draw 17 = .ok (.getfield 343, 3) := by decide +kernel
theorem dX12_draw_20 : decode cX12_draw 20 = .ok (.bipush 33, 2) := by decide +kernel
theorem dX12_draw_22 : decode cX12_draw 22 = .ok (.lushr, 1) := by decide +kernel
theorem dX12_draw_23 : decode cX12_draw 23 = .ok (.iload_n 1, 1) := by decide +kernel
theorem dX12_draw_24 : decode cX12_draw 24 = .ok (.i2l, 1) := by decide +kernel
theorem dX12_draw_25 : decode cX12_draw 25 = .ok (.lrem, 1) := by decide +kernel
theorem dX12_draw_26 : decode cX12_draw 26 = .ok (.l2i, 1) := by decide +kernel
theorem dX12_draw_27 : decode cX12_draw 27 = .ok (.ireturn, 1) := by decide +kernel
set_option maxHeartbeats 4000000 in
set_option maxRecDepth 100000 in
theorem ctM_draw (μ : Mm) {j : Int} (hj : 0 < j) (hj2 : j ≤ 100) : CtE PM 0 yX12_draw cX12_draw 2 (some .int) [vR 0, vI j] μ (fun r m => r = drw (seed1 μ.2.1) j ∧ m = mlong μ (seed1 μ.2.1)) := by
  refine ct_intro [some (vR 0), some (vI j)] RX12 (by decide) rfl XM rfl (Nat.le_of_ble_eq_true rfl) (fun K hO => ?_)
  refine aw_aload_n hO dX12_draw_0 rfl rfl ?_
  refine aw_aload_n hO dX12_draw_1 rfl rfl ?_
  refine gM_draws hO dX12_draw_2 rfl ?_
  refine aw_ldc2 (a := 6364136223846793005) hO dX12_draw_5 rfl (lw_t7 169 rfl rfl) ?_
  refine aw_lmul hO dX12_draw_8 rfl ?_
  refine aw_ldc2 (a := 1442695040888963407) hO dX12_draw_9 rfl (lw_t7 170 rfl rfl) ?_
  refine aw_ladd hO dX12_draw_12 rfl ?_
  refine pM_draws hO dX12_draw_13 rfl ?_
  refine aw_mm (fun μ1 e_μ1 => ?_)
  have e2 : μ1.2.1 = seed1 μ.2.1 := by rw [e_μ1]; rfl
  refine aw_aload_n hO dX12_draw_16 rfl rfl ?_
  refine gM_draws hO dX12_draw_17 rfl ?_
  refine aw_bipush hO dX12_draw_20 rfl (by decide) (by decide) ?_
  refine aw_lushr hO dX12_draw_22 rfl ?_
  refine aw_iload_n hO dX12_draw_23 rfl rfl ?_
  refine aw_i2l hO dX12_draw_24 rfl ⟨by omega, by omega⟩ ?_
  refine aw_lrem hO dX12_draw_25 rfl ⟨by have := lUsh_rng (μ1.2.1); omega, by have := lUsh_rng (μ1.2.1); omega⟩ ⟨by omega, by omega⟩ (by omega) ?_
  refine aw_l2i hO dX12_draw_26 rfl ?_
  refine aw_iret hO dX12_draw_27 ?_
  exact ⟨_, rfl, by rw [e2]; rfl, e_μ1⟩

/-- who is met on a walk between two doors -/
def onWay (away lo hi : Int) (dr : Nat → Int) (p : Nat) : Bool := !hasB away p && decide (lo ≤ dr p ∧ dr p ≤ hi)
def walkF (f : Nat → Int) (door : Int) (ok : Nat → Bool) (n : Nat) : Nat → Int := fun i => if i = 30 then f 30 + (max door (f 29) - min door (f 29)) else if i = 29 then door else if i < n ∧ ok i = true then min 9 (f i + 1) else f i
def cntB (ok : Nat → Bool) : Nat → Nat
  | 0 => 0
  | p + 1 => cntB ok p + (if ok p = true then 1 else 0)
theorem cntB_le (ok : Nat → Bool) : ∀ n, cntB ok n ≤ n
  | 0 => Nat.le_refl _
  | n + 1 => by have := cntB_le ok n; unfold cntB; split <;> omega
theorem walkF_0 (f : Nat → Int) (door : Int) (ok : Nat → Bool) : walkF f door ok 0 = fu (fu f 30 (f 30 + (max door (f 29) - min door (f 29)))) 29 door := by
  funext i
  unfold walkF fu
  by_cases h1 : i = 30
  · subst h1; rfl
  · by_cases h2 : i = 29
    · subst h2; rfl
    · simp [h1, h2]
theorem walkF_s1 {f : Nat → Int} {door : Int} {ok : Nat → Bool} {p : Nat} (hp : p < 29) (h : ok p = true) : fu (walkF f door ok p) p (min 9 (f p + 1)) = walkF f door ok (p + 1) := by
  funext i
  unfold walkF fu
  by_cases h1 : i = p
  · subst h1
    rw [if_pos rfl, if_neg (by omega), if_neg (by omega), if_pos ⟨by omega, h⟩]
  · rw [if_neg h1]
    by_cases h3 : i < p
    · simp [h3, show i < p + 1 by omega]
    · simp [h3, show ¬ i < p + 1 by omega]
theorem walkF_s0 {f : Nat → Int} {door : Int} {ok : Nat → Bool} {p : Nat} (h : ¬ ok p = true) : walkF f door ok p = walkF f door ok (p + 1) := by
  funext i
  unfold walkF
  by_cases h1 : i = p
  · subst h1
    simp [h]
  · by_cases h3 : i < p
    · simp [h3, show i < p + 1 by omega]
    · simp [h3, show ¬ i < p + 1 by omega]
/-- who is met if he walks to that door, as the reference's memory has it -/
def okW (μ : Mm) (v : Int) : Nat → Bool := onWay (μ.1 17 31) (min v (μ.1 17 29)) (max v (μ.1 17 29)) (fun p => μ.1 15 (4 * p + 3))
theorem dX12_walkNow_0 : decode cX12_walkNow 0 = .ok (.iload_n 1, 1) := by decide +kernel
theorem dX12_walkNow_1 : decode cX12_walkNow 1 = .ok (.aload_n 0, 1) := by decide +kernel
theorem dX12_walkNow_2 : decode cX12_walkNow 2 = .ok (.getfield 58, 3) := by decide +kernel
theorem dX12_walkNow_5 : decode cX12_walkNow 5 = .ok (.bipush 29, 2) := by decide +kernel
theorem dX12_walkNow_7 : decode cX12_walkNow 7 = .ok (.iaload, 1) := by decide +kernel
theorem dX12_walkNow_8 : decode cX12_walkNow 8 = .ok (.invokestatic 267, 3) := by decide +kernel
theorem dX12_walkNow_11 : decode cX12_walkNow 11 = .ok (.istore_n 2, 1) := by decide +kernel
theorem dX12_walkNow_12 : decode cX12_walkNow 12 = .ok (.iload_n 1, 1) := by decide +kernel
theorem dX12_walkNow_13 : decode cX12_walkNow 13 = .ok (.aload_n 0, 1) := by decide +kernel
theorem dX12_walkNow_14 : decode cX12_walkNow 14 = .ok (.getfield 58, 3) := by decide +kernel
theorem dX12_walkNow_17 : decode cX12_walkNow 17 = .ok (.bipush 29, 2) := by decide +kernel
theorem dX12_walkNow_19 : decode cX12_walkNow 19 = .ok (.iaload, 1) := by decide +kernel
theorem dX12_walkNow_20 : decode cX12_walkNow 20 = .ok (.invokestatic 269, 3) := by decide +kernel
theorem dX12_walkNow_23 : decode cX12_walkNow 23 = .ok (.istore_n 3, 1) := by decide +kernel
theorem dX12_walkNow_24 : decode cX12_walkNow 24 = .ok (.iconst 0, 1) := by decide +kernel
theorem dX12_walkNow_25 : decode cX12_walkNow 25 = .ok (.istore 4, 2) := by decide +kernel
theorem dX12_walkNow_27 : decode cX12_walkNow 27 = .ok (.aload_n 0, 1) := by decide +kernel
theorem dX12_walkNow_28 : decode cX12_walkNow 28 = .ok (.getfield 58, 3) := by decide +kernel
theorem dX12_walkNow_31 : decode cX12_walkNow 31 = .ok (.bipush 30, 2) := by decide +kernel
theorem dX12_walkNow_33 : decode cX12_walkNow 33 = .ok (.dup2, 1) := by decide +kernel
theorem dX12_walkNow_34 : decode cX12_walkNow 34 = .ok (.iaload, 1) := by decide +kernel
theorem dX12_walkNow_35 : decode cX12_walkNow 35 = .ok (.iload_n 3, 1) := by decide +kernel
theorem dX12_walkNow_36 : decode cX12_walkNow 36 = .ok (.iload_n 2, 1) := by decide +kernel
theorem dX12_walkNow_37 : decode cX12_walkNow 37 = .ok (.isub, 1) := by decide +kernel
theorem dX12_walkNow_38 : decode cX12_walkNow 38 = .ok (.iadd, 1) := by decide +kernel
theorem dX12_walkNow_39 : decode cX12_walkNow 39 = .ok (.iastore, 1) := by decide +kernel
theorem dX12_walkNow_40 : decode cX12_walkNow 40 = .ok (.aload_n 0, 1) := by decide +kernel
theorem dX12_walkNow_41 : decode cX12_walkNow 41 = .ok (.getfield 58, 3) := by decide +kernel
theorem dX12_walkNow_44 : decode cX12_walkNow 44 = .ok (.bipush 29, 2) := by decide +kernel
theorem dX12_walkNow_46 : decode cX12_walkNow 46 = .ok (.iload_n 1, 1) := by decide +kernel
theorem dX12_walkNow_47 : decode cX12_walkNow 47 = .ok (.iastore, 1) := by decide +kernel
theorem dX12_walkNow_48 : decode cX12_walkNow 48 = .ok (.iconst 0, 1) := by decide +kernel
theorem dX12_walkNow_49 : decode cX12_walkNow 49 = .ok (.istore 5, 2) := by decide +kernel
theorem dX12_walkNow_51 : decode cX12_walkNow 51 = .ok (.iload 5, 2) := by decide +kernel
theorem dX12_walkNow_53 : decode cX12_walkNow 53 = .ok (.aload_n 0, 1) := by decide +kernel
theorem dX12_walkNow_54 : decode cX12_walkNow 54 = .ok (.getfield 242, 3) := by decide +kernel
theorem dX12_walkNow_57 : decode cX12_walkNow 57 = .ok (.if_icmp .ge 61, 3) := by decide +kernel
theorem dX12_walkNow_60 : decode cX12_walkNow 60 = .ok (.aload_n 0, 1) := by decide +kernel
theorem dX12_walkNow_61 : decode cX12_walkNow 61 = .ok (.iload 5, 2) := by decide +kernel
theorem dX12_walkNow_63 : decode cX12_walkNow 63 = .ok (.invokevirtual 280, 3) := by decide +kernel
theorem dX12_walkNow_66 : decode cX12_walkNow 66 = .ok (.ifCond .ne 46, 3) := by decide +kernel
theorem dX12_walkNow_69 : decode cX12_walkNow 69 = .ok (.aload_n 0, 1) := by decide +kernel
theorem dX12_walkNow_70 : decode cX12_walkNow 70 = .ok (.iload 5, 2) := by decide +kernel
theorem dX12_walkNow_72 : decode cX12_walkNow 72 = .ok (.iconst 3, 1) := by decide +kernel
theorem dX12_walkNow_73 : decode cX12_walkNow 73 = .ok (.invokevirtual 264, 3) := by decide +kernel
theorem dX12_walkNow_76 : decode cX12_walkNow 76 = .ok (.iload_n 2, 1) := by decide +kernel
theorem dX12_walkNow_77 : decode cX12_walkNow 77 = .ok (.iload_n 3, 1) := by decide +kernel
theorem dX12_walkNow_78 : decode cX12_walkNow 78 = .ok (.invokestatic 205, 3) := by decide +kernel
theorem dX12_walkNow_81 : decode cX12_walkNow 81 = .ok (.ifCond .eq 31, 3) := by decide +kernel
theorem dX12_walkNow_84 : decode cX12_walkNow 84 = .ok (.aload_n 0, 1) := by decide +kernel
theorem dX12_walkNow_85 : decode cX12_walkNow 85 = .ok (.getfield 58, 3) := by decide +kernel
theorem dX12_walkNow_88 : decode cX12_walkNow 88 = .ok (.iconst 0, 1) := by decide +kernel
theorem dX12_walkNow_89 : decode cX12_walkNow 89 = .ok (.iload 5, 2) := by decide +kernel
theorem dX12_walkNow_91 : decode cX12_walkNow 91 = .ok (.iadd, 1) := by decide +kernel
theorem dX12_walkNow_92 : decode cX12_walkNow 92 = .ok (.bipush 9, 2) := by decide +kernel
theorem dX12_walkNow_94 : decode cX12_walkNow 94 = .ok (.aload_n 0, 1) := by decide +kernel
theorem dX12_walkNow_95 : decode cX12_walkNow 95 = .ok (.getfield 58, 3) := by decide +kernel
theorem dX12_walkNow_98 : decode cX12_walkNow 98 = .ok (.iconst 0, 1) := by decide +kernel
theorem dX12_walkNow_99 : decode cX12_walkNow 99 = .ok (.iload 5, 2) := by decide +kernel
theorem dX12_walkNow_101 : decode cX12_walkNow 101 = .ok (.iadd, 1) := by decide +kernel
theorem dX12_walkNow_102 : decode cX12_walkNow 102 = .ok (.iaload, 1) := by decide +kernel
theorem dX12_walkNow_103 : decode cX12_walkNow 103 = .ok (.iconst 1, 1) := by decide +kernel
theorem dX12_walkNow_104 : decode cX12_walkNow 104 = .ok (.iadd, 1) := by decide +kernel
theorem dX12_walkNow_105 : decode cX12_walkNow 105 = .ok (.invokestatic 267, 3) := by decide +kernel
theorem dX12_walkNow_108 : decode cX12_walkNow 108 = .ok (.iastore, 1) := by decide +kernel
theorem dX12_walkNow_109 : decode cX12_walkNow 109 = .ok (.iinc 4 1, 3) := by decide +kernel
theorem dX12_walkNow_112 : decode cX12_walkNow 112 = .ok (.iinc 5 1, 3) := by decide +kernel
theorem dX12_walkNow_115 : decode cX12_walkNow 115 = .ok (.goto (-64), 3) := by decide +kernel
theorem dX12_walkNow_118 : decode cX12_walkNow 118 = .ok (.iload 4, 2) := by decide +kernel
theorem dX12_walkNow_120 : decode cX12_walkNow 120 = .ok (.ireturn, 1) := by decide +kernel
set_option maxHeartbeats 4000000 in
set_option maxRecDepth 100000 in
theorem ctM_walkNow (μ : Mm) (h : MB μ) {v : Int} (hv : 0 ≤ v) (hv2 : v ≤ 20) : CtE PM 2 yX12_walkNow cX12_walkNow 6 (some .int) [vR 0, vI v] μ (fun r m => r = ((cntB (okW μ v) (μ.1 0 25).toNat : Nat) : Int) ∧ m = mrow μ 17 (walkF (μ.1 17) v (okW μ v) (μ.1 0 25).toNat)) := by
  refine ct_intro [some (vR 0), some (vI v), none, none, none, none] RX12 (by decide) rfl XM rfl (Nat.le_of_ble_eq_true rfl) (fun K hO => ?_)
  have hnp := h.np
  have hn := h.now.rest
  have lp : ∀ (c : Nat) (p : Nat) (m : Mm), ((p : Int) + c = μ.1 0 25) → (m = mrow μ 17 (walkF (μ.1 17) v (okW μ v) p)) → AW K 51 [some (vR 0), some (vI v), some (vI (min v (μ.1 17 29))), some (vI (max v (μ.1 17 29))), some (vI (((cntB (okW μ v) p) : Nat) : Int)), some (vI ((p : Nat) : Int))] [] m := by
    intro c
    induction c with
    | zero =>
      intro p m hp hm
      have hcl := cntB_le (okW μ v) p
      refine aw_iload hO dX12_walkNow_51 rfl rfl ?_
      refine aw_aload_n hO dX12_walkNow_53 rfl rfl ?_
      refine gM_persons hO dX12_walkNow_54 rfl ?_
      refine aw_cg (show m.1 0 25 = μ.1 0 25 by rw [hm, mrow_nk (by decide)]) ?_
      refine aw_icmp_ge (tgt := 118) hO dX12_walkNow_57 rfl rfl (inRn (by omega)) ⟨by omega, by omega⟩ (fun c57 => ?_) (fun c57 => ?_)
      · refine aw_iload hO dX12_walkNow_118 rfl rfl ?_
        refine aw_iret hO dX12_walkNow_120 ?_
        exact ⟨_, rfl, by rw [show (μ.1 0 25).toNat = p by omega], by rw [hm, show (μ.1 0 25).toNat = p by omega]⟩
      · exact absurd c57 (by omega)
    | succ c ih =>
      intro p m hp hm
      have hcl := cntB_le (okW μ v) p
      refine aw_iload hO dX12_walkNow_51 rfl rfl ?_
      refine aw_aload_n hO dX12_walkNow_53 rfl rfl ?_
      refine gM_persons hO dX12_walkNow_54 rfl ?_
      refine aw_cg (show m.1 0 25 = μ.1 0 25 by rw [hm, mrow_nk (by decide)]) ?_
      refine aw_icmp_ge (tgt := 118) hO dX12_walkNow_57 rfl rfl (inRn (by omega)) ⟨by omega, by omega⟩ (fun c57 => ?_) (fun c57 => ?_)
      · exact absurd c57 (by omega)
      · refine aw_aload_n hO dX12_walkNow_60 rfl rfl ?_
        refine aw_iload hO dX12_walkNow_61 rfl rfl ?_
        refine aw_callVI (as := [vI ((p : Nat) : Int)]) (st := []) hO dX12_walkNow_63 rfl (lw_t7 29 rfl rfl) kX12_isAway (T := TX12) rfl (by decide) rfl (ctM_isAway m p) (by decide) rfl rfl rfl (Nat.le_of_ble_eq_true rfl) ?_
        refine aw_cg (by rw [show m.1 17 31 = μ.1 17 31 by rw [hm, mrow_at]; simp [walkF]; omega]) ?_
        refine aw_if_ne (tgt := 112) hO dX12_walkNow_66 rfl rfl ⟨by split <;> omega, by split <;> omega⟩ (fun c66 => ?_) (fun c66 => ?_)
        · have hok : ¬ okW μ v p = true := by unfold okW onWay; revert c66; cases hasB (μ.1 17 31) p <;> simp
          refine aw_iinc (ls' := [some (vR 0), some (vI v), some (vI (min v (μ.1 17 29))), some (vI (max v (μ.1 17 29))), some (vI (((cntB (okW μ v) p) : Nat) : Int)), some (vI (((p : Nat) : Int) + 1))]) hO dX12_walkNow_112 rfl rfl rfl rfl ?_
          refine aw_lsq (ls' := [some (vR 0), some (vI v), some (vI (min v (μ.1 17 29))), some (vI (max v (μ.1 17 29))), some (vI (((cntB (okW μ v) p) : Nat) : Int)), some (vI (((p + 1) : Nat) : Int))]) rfl ?_
          refine aw_goto (tgt := 51) hO dX12_walkNow_115 rfl ?_
          refine aw_lsq (ls' := [some (vR 0), some (vI v), some (vI (min v (μ.1 17 29))), some (vI (max v (μ.1 17 29))), some (vI (((cntB (okW μ v) (p + 1)) : Nat) : Int)), some (vI (((p + 1) : Nat) : Int))]) (by rw [show cntB (okW μ v) (p + 1) = cntB (okW μ v) p + (if okW μ v p = true then 1 else 0) from rfl, if_neg hok]; rfl) ?_
          exact ih (p + 1) m (by omega) (by rw [hm, walkF_s0 hok])
        · have c66b : hasB (μ.1 17 31) p = false := by revert c66; cases hasB (μ.1 17 31) p <;> simp
          refine aw_aload_n hO dX12_walkNow_69 rfl rfl ?_
          refine aw_iload hO dX12_walkNow_70 rfl rfl ?_
          refine aw_iconst hO dX12_walkNow_72 rfl ?_
          refine aw_callVI (as := [vI ((p : Nat) : Int), vI 3]) (st := []) hO dX12_walkNow_73 rfl (lw_t7 25 rfl rfl) kX12_of (T := TX12) rfl (by decide) rfl (ctM_of m (p := p) (k := 3) (by omega) (by omega)) (by decide) rfl rfl rfl (Nat.le_of_ble_eq_true rfl) ?_
          refine aw_cg (show m.1 15 (4 * p + 3) = μ.1 15 (4 * p + 3) by rw [hm, mrow_nk (by decide)]) ?_
          have hpd := h.per (p := p) (k := 3) (by omega) (by omega)
          refine aw_iload_n hO dX12_walkNow_76 rfl rfl ?_
          refine aw_iload_n hO dX12_walkNow_77 rfl rfl ?_
          refine aw_callSI (as := [vI (μ.1 15 (4 * p + 3)), vI (min v (μ.1 17 29)), vI (max v (μ.1 17 29))]) (st := []) hO dX12_walkNow_78 rfl (lw_t6 172 rfl rfl) kX12_in (ctM_in m ⟨by omega, by omega⟩ ⟨by omega, by omega⟩ ⟨by omega, by omega⟩) (by decide) rfl rfl rfl (Nat.le_of_ble_eq_true rfl) ?_
          refine aw_ifz_eq (tgt := 112) hO dX12_walkNow_81 rfl rfl (fun c81 => ?_) (fun c81 => ?_)
          · have hok : ¬ okW μ v p = true := by
              unfold okW onWay
              rw [c66b]
              intro e
              rw [Bool.and_eq_true, decide_eq_true_eq] at e
              exact c81 e.2
            refine aw_iinc (ls' := [some (vR 0), some (vI v), some (vI (min v (μ.1 17 29))), some (vI (max v (μ.1 17 29))), some (vI (((cntB (okW μ v) p) : Nat) : Int)), some (vI (((p : Nat) : Int) + 1))]) hO dX12_walkNow_112 rfl rfl rfl rfl ?_
            refine aw_lsq (ls' := [some (vR 0), some (vI v), some (vI (min v (μ.1 17 29))), some (vI (max v (μ.1 17 29))), some (vI (((cntB (okW μ v) p) : Nat) : Int)), some (vI (((p + 1) : Nat) : Int))]) rfl ?_
            refine aw_goto (tgt := 51) hO dX12_walkNow_115 rfl ?_
            refine aw_lsq (ls' := [some (vR 0), some (vI v), some (vI (min v (μ.1 17 29))), some (vI (max v (μ.1 17 29))), some (vI (((cntB (okW μ v) (p + 1)) : Nat) : Int)), some (vI (((p + 1) : Nat) : Int))]) (by rw [show cntB (okW μ v) (p + 1) = cntB (okW μ v) p + (if okW μ v p = true then 1 else 0) from rfl, if_neg hok]; rfl) ?_
            exact ih (p + 1) m (by omega) (by rw [hm, walkF_s0 hok])
          · have hok : okW μ v p = true := by
              unfold okW onWay
              rw [c66b]
              simp only [Bool.not_false, Bool.true_and, decide_eq_true_eq]
              exact c81
            have hmm := h.now.met (p := p) (by omega)
            have hmp : m.1 17 p = μ.1 17 p := by rw [hm, mrow_at]; unfold walkF; rw [if_neg (by omega), if_neg (by omega), if_neg (by omega)]
            refine aw_aload_n hO dX12_walkNow_84 rfl rfl ?_
            refine gM_now hO dX12_walkNow_85 rfl ?_
            refine aw_iconst hO dX12_walkNow_88 rfl ?_
            refine aw_iload hO dX12_walkNow_89 rfl rfl ?_
            refine aw_iadd hO dX12_walkNow_91 rfl ?_
            refine aw_bipush hO dX12_walkNow_92 rfl (by decide) (by decide) ?_
            refine aw_aload_n hO dX12_walkNow_94 rfl rfl ?_
            refine gM_now hO dX12_walkNow_95 rfl ?_
            refine aw_iconst hO dX12_walkNow_98 rfl ?_
            refine aw_iload hO dX12_walkNow_99 rfl rfl ?_
            refine aw_iadd hO dX12_walkNow_101 rfl ?_
            refine aw_ialdn (N := 218) (i := p) hO dX12_walkNow_102 rfl (by decide) rfl (by decide) (by omega) (by omega) ?_
            refine aw_cg hmp ?_
            refine aw_iconst hO dX12_walkNow_103 rfl ?_
            refine aw_iadd hO dX12_walkNow_104 rfl ?_
            refine aw_mmin hO dX12_walkNow_105 rfl (lw_t7 37 rfl rfl) mth_min (by decide) rfl (Nat.le_of_ble_eq_true rfl) (inRlit _) ⟨by omega, by omega⟩ ?_
            refine aw_iastn (N := 218) (i := p) hO dX12_walkNow_108 rfl (by decide) rfl (by decide) (by omega) (by omega) ?_
            refine aw_mm (fun μ1 e_μ1 => ?_)
            refine aw_iinc (ls' := [some (vR 0), some (vI v), some (vI (min v (μ.1 17 29))), some (vI (max v (μ.1 17 29))), some (vI ((((cntB (okW μ v) p) : Nat) : Int) + 1)), some (vI ((p : Nat) : Int))]) hO dX12_walkNow_109 rfl rfl rfl rfl ?_
            refine aw_lsq (ls' := [some (vR 0), some (vI v), some (vI (min v (μ.1 17 29))), some (vI (max v (μ.1 17 29))), some (vI ((((cntB (okW μ v) p) + 1) : Nat) : Int)), some (vI ((p : Nat) : Int))]) rfl ?_
            refine aw_iinc (ls' := [some (vR 0), some (vI v), some (vI (min v (μ.1 17 29))), some (vI (max v (μ.1 17 29))), some (vI ((((cntB (okW μ v) p) + 1) : Nat) : Int)), some (vI (((p : Nat) : Int) + 1))]) hO dX12_walkNow_112 rfl rfl rfl rfl ?_
            refine aw_lsq (ls' := [some (vR 0), some (vI v), some (vI (min v (μ.1 17 29))), some (vI (max v (μ.1 17 29))), some (vI ((((cntB (okW μ v) p) + 1) : Nat) : Int)), some (vI (((p + 1) : Nat) : Int))]) rfl ?_
            refine aw_goto (tgt := 51) hO dX12_walkNow_115 rfl ?_
            refine aw_lsq (ls' := [some (vR 0), some (vI v), some (vI (min v (μ.1 17 29))), some (vI (max v (μ.1 17 29))), some (vI (((cntB (okW μ v) (p + 1)) : Nat) : Int)), some (vI (((p + 1) : Nat) : Int))]) (by rw [show cntB (okW μ v) (p + 1) = cntB (okW μ v) p + (if okW μ v p = true then 1 else 0) from rfl, if_pos hok]) ?_
            exact ih (p + 1) μ1 (by omega) (by rw [e_μ1, hm, mst_mrow, walkF_s1 (by omega) hok])
  refine aw_iload_n hO dX12_walkNow_0 rfl rfl ?_
  refine aw_aload_n hO dX12_walkNow_1 rfl rfl ?_
  refine gM_now hO dX12_walkNow_2 rfl ?_
  refine aw_bipush hO dX12_walkNow_5 rfl (by decide) (by decide) ?_
  refine aw_ialdn (N := 218) (i := 29) hO dX12_walkNow_7 rfl (by decide) rfl (by decide) rfl (by decide) ?_
  refine aw_mmin hO dX12_walkNow_8 rfl (lw_t7 37 rfl rfl) mth_min (by decide) rfl (Nat.le_of_ble_eq_true rfl) ⟨by omega, by omega⟩ ⟨by omega, by omega⟩ ?_
  refine aw_istore_n (ls' := [some (vR 0), some (vI v), some (vI (min v (μ.1 17 29))), none, none, none]) hO dX12_walkNow_11 rfl (Nat.le_of_ble_eq_true rfl) rfl rfl ?_
  refine aw_iload_n hO dX12_walkNow_12 rfl rfl ?_
  refine aw_aload_n hO dX12_walkNow_13 rfl rfl ?_
  refine gM_now hO dX12_walkNow_14 rfl ?_
  refine aw_bipush hO dX12_walkNow_17 rfl (by decide) (by decide) ?_
  refine aw_ialdn (N := 218) (i := 29) hO dX12_walkNow_19 rfl (by decide) rfl (by decide) rfl (by decide) ?_
  refine aw_mmax hO dX12_walkNow_20 rfl (lw_t7 71 rfl rfl) mth_max (by decide) rfl (Nat.le_of_ble_eq_true rfl) ⟨by omega, by omega⟩ ⟨by omega, by omega⟩ ?_
  refine aw_istore_n (ls' := [some (vR 0), some (vI v), some (vI (min v (μ.1 17 29))), some (vI (max v (μ.1 17 29))), none, none]) hO dX12_walkNow_23 rfl (Nat.le_of_ble_eq_true rfl) rfl rfl ?_
  refine aw_iconst hO dX12_walkNow_24 rfl ?_
  refine aw_istore (ls' := [some (vR 0), some (vI v), some (vI (min v (μ.1 17 29))), some (vI (max v (μ.1 17 29))), some (vI 0), none]) hO dX12_walkNow_25 rfl (Nat.le_of_ble_eq_true rfl) rfl rfl ?_
  refine aw_aload_n hO dX12_walkNow_27 rfl rfl ?_
  refine gM_now hO dX12_walkNow_28 rfl ?_
  refine aw_bipush hO dX12_walkNow_31 rfl (by decide) (by decide) ?_
  refine aw_dup2 hO dX12_walkNow_33 rfl rfl rfl ?_
  refine aw_ialdn (N := 218) (i := 30) hO dX12_walkNow_34 rfl (by decide) rfl (by decide) rfl (by decide) ?_
  refine aw_iload_n hO dX12_walkNow_35 rfl rfl ?_
  refine aw_iload_n hO dX12_walkNow_36 rfl rfl ?_
  refine aw_isub hO dX12_walkNow_37 rfl ?_
  refine aw_iadd hO dX12_walkNow_38 rfl ?_
  refine aw_iastn (N := 218) (i := 30) hO dX12_walkNow_39 rfl (by decide) rfl (by decide) rfl (by decide) ?_
  refine aw_mm (fun μ1 e_μ1 => ?_)
  refine aw_aload_n hO dX12_walkNow_40 rfl rfl ?_
  refine gM_now hO dX12_walkNow_41 rfl ?_
  refine aw_bipush hO dX12_walkNow_44 rfl (by decide) (by decide) ?_
  refine aw_iload_n hO dX12_walkNow_46 rfl rfl ?_
  refine aw_iastn (N := 218) (i := 29) hO dX12_walkNow_47 rfl (by decide) rfl (by decide) rfl (by decide) ?_
  refine aw_mm (fun μ2 e_μ2 => ?_)
  refine aw_iconst hO dX12_walkNow_48 rfl ?_
  refine aw_istore (ls' := [some (vR 0), some (vI v), some (vI (min v (μ.1 17 29))), some (vI (max v (μ.1 17 29))), some (vI 0), some (vI 0)]) hO dX12_walkNow_49 rfl (Nat.le_of_ble_eq_true rfl) rfl rfl ?_
  refine aw_lsq (ls' := [some (vR 0), some (vI v), some (vI (min v (μ.1 17 29))), some (vI (max v (μ.1 17 29))), some (vI (((cntB (okW μ v) 0) : Nat) : Int)), some (vI ((0 : Nat) : Int))]) rfl ?_
  exact lp (μ.1 0 25).toNat 0 μ2 (by omega) (by rw [e_μ2, e_μ1, walkF_0, mst_row μ, mst_mrow])
