/-! ## the almanac -/
theorem JR.lg {μ ν : Mm} {s : Nat} {x : Int} (h : JR μ s ν) : JR (mlong μ x) s ν := h
theorem metM_R (ν : Mm) (q : Int) : ∀ t, InR (metM ν q t)
  | 0 => by rw [metM_0]; exact inRlit 0
  | t + 1 => by
    by_cases h : q = -1
    · rw [h, metM_n]; exact inRlit 0
    · rw [metM_s h]; exact bOr_R _ _
theorem or_all : ∀ a : Fin 32, ∀ t : Fin 5, 0 ≤ bOr ((a.val : Nat) : Int) (bShl 1 ((t.val : Nat) : Int)) ∧ bOr ((a.val : Nat) : Int) (bShl 1 ((t.val : Nat) : Int)) ≤ 31 := by decide +kernel
theorem metM_rng (ν : Mm) (q : Int) : ∀ t, t ≤ 5 → 0 ≤ metM ν q t ∧ metM ν q t ≤ 31
  | 0, _ => by rw [metM_0]; decide
  | t + 1, ht => by
    by_cases h : q = -1
    · rw [h, metM_n]; decide
    · have ih := metM_rng ν q t (by omega)
      rw [metM_s h]
      split
      · have := or_all ⟨(metM ν q t).toNat, by omega⟩ ⟨t, by omega⟩
        simp only [Int.toNat_of_nonneg ih.1] at this
        exact this
      · rw [bOr_z ⟨by omega, by omega⟩]; exact ih
theorem dX1_draw_0 : decode cX1_draw 0 = .ok (.aload_n 0, 1) := by decide +kernel
theorem dX1_draw_1 : decode cX1_draw 1 = .ok (.aload_n 0, 1) := by decide +kernel
theorem dX1_draw_2 : decode cX1_draw 2 = .ok (.getfield 9, 3) := by decide +kernel
theorem dX1_draw_5 : decode cX1_draw 5 = .ok (.ldc2_w 133, 3) := by decide +kernel
theorem dX1_draw_8 : decode cX1_draw 8 = .ok (.lmul, 1) := by decide +kernel
theorem dX1_draw_9 : decode cX1_draw 9 = .ok (.ldc2_w 135, 3) := by decide +kernel
theorem dX1_draw_12 : decode cX1_draw 12 = .ok (.ladd, 1) := by decide +kernel
theorem dX1_draw_13 : decode cX1_draw 13 = .ok (.putfield 9, 3) := by decide +kernel
theorem dX1_draw_16 : decode cX1_draw 16 = .ok (.iload_n 1, 1) := by decide +kernel
theorem dX1_draw_17 : decode cX1_draw 17 = .ok (.ifCond .le 17, 3) := by decide +kernel
theorem dX1_draw_20 : decode cX1_draw 20 = .ok (.aload_n 0, 1) := by decide +kernel
theorem dX1_draw_21 : decode cX1_draw 21 = .ok (.getfield 9, 3) := by decide +kernel
theorem dX1_draw_24 : decode cX1_draw 24 = .ok (.bipush 33, 2) := by decide +kernel
theorem dX1_draw_26 : decode cX1_draw 26 = .ok (.lushr, 1) := by decide +kernel
theorem dX1_draw_27 : decode cX1_draw 27 = .ok (.iload_n 1, 1) := by decide +kernel
theorem dX1_draw_28 : decode cX1_draw 28 = .ok (.i2l, 1) := by decide +kernel
theorem dX1_draw_29 : decode cX1_draw 29 = .ok (.lrem, 1) := by decide +kernel
theorem dX1_draw_30 : decode cX1_draw 30 = .ok (.l2i, 1) := by decide +kernel
theorem dX1_draw_31 : decode cX1_draw 31 = .ok (.goto 4, 3) := by decide +kernel
theorem dX1_draw_34 : decode cX1_draw 34 = .ok (.iconst 0, 1) := by decide +kernel
theorem dX1_draw_35 : decode cX1_draw 35 = .ok (.ireturn, 1) := by decide +kernel
set_option maxRecDepth 100000 in
theorem gC_X1_9_76 {Q : Option AV → Mm → Prop} {K : KT} {cc : ByteArray} {nL d : Nat} {ret : Option FieldType} {pc n : Nat} {ls : List (Option AV)} {st : List AV} {μ : Mm} (hO : KOk PC Q K cc RX1 nL d ret) (hd : decode cc pc = .ok (.getfield 9, 3)) (hn : pc + 3 = n) (kk : AW K n ls (vL μ.2.1 :: st) μ) : AW K pc ls (vR 76 :: st) μ := aw_get (f := 2) hO hd hn okX1 (by decide) (lw_t1 218 rfl rfl) (by decide) rfl rfl rfl kk
set_option maxHeartbeats 4000000 in
set_option maxRecDepth 100000 in
theorem cJ_draw (μ : Mm) {j : Int} (hj : 0 < j) (hj2 : j ≤ 100) : CtE PC 0 yX1_draw cX1_draw 2 (some .int) [vR 76, vI j] μ (fun r m => r = drw (seed1 μ.2.1) j ∧ m = mlong μ (seed1 μ.2.1)) := by
  refine ct_intro [some (vR 76), some (vI j)] RX1 (by decide) rfl XCo rfl (Nat.le_of_ble_eq_true rfl) (fun K hO => ?_)
  refine aw_aload_n hO dX1_draw_0 rfl rfl ?_
  refine aw_aload_n hO dX1_draw_1 rfl rfl ?_
  refine gC_X1_9_76 hO dX1_draw_2 rfl ?_
  refine aw_ldc2 (a := 6364136223846793005) hO dX1_draw_5 rfl (lw_t4 96 rfl rfl) ?_
  refine aw_lmul hO dX1_draw_8 rfl ?_
  refine aw_ldc2 (a := 1442695040888963407) hO dX1_draw_9 rfl (lw_t4 97 rfl rfl) ?_
  refine aw_ladd hO dX1_draw_12 rfl ?_
  refine pC_drawn hO dX1_draw_13 rfl ?_
  refine aw_mm (fun μ1 e_μ1 => ?_)
  have e2 : μ1.2.1 = seed1 μ.2.1 := by rw [e_μ1]; rfl
  refine aw_iload_n hO dX1_draw_16 rfl rfl ?_
  refine aw_if_le (tgt := 34) hO dX1_draw_17 rfl rfl ⟨by omega, by omega⟩ (fun c17 => ?_) (fun c17 => ?_)
  · exact absurd c17 (by omega)
  · refine aw_aload_n hO dX1_draw_20 rfl rfl ?_
    refine gC_X1_9_76 hO dX1_draw_21 rfl ?_
    refine aw_bipush hO dX1_draw_24 rfl (by decide) (by decide) ?_
    refine aw_lushr hO dX1_draw_26 rfl ?_
    refine aw_iload_n hO dX1_draw_27 rfl rfl ?_
    refine aw_i2l hO dX1_draw_28 rfl ⟨by omega, by omega⟩ ?_
    refine aw_lrem hO dX1_draw_29 rfl ⟨by have := lUsh_rng (μ1.2.1); omega, by have := lUsh_rng (μ1.2.1); omega⟩ ⟨by omega, by omega⟩ (by omega) ?_
    refine aw_l2i hO dX1_draw_30 rfl ?_
    refine aw_goto (tgt := 35) hO dX1_draw_31 rfl ?_
    refine aw_iret hO dX1_draw_35 ?_
    exact ⟨_, rfl, by rw [e2]; rfl, e_μ1⟩
theorem dX1_canReach_0 : decode cX1_canReach 0 = .ok (.iload_n 2, 1) := by decide +kernel
theorem dX1_canReach_1 : decode cX1_canReach 1 = .ok (.aload_n 1, 1) := by decide +kernel
theorem dX1_canReach_2 : decode cX1_canReach 2 = .ok (.getfield 23, 3) := by decide +kernel
theorem dX1_canReach_5 : decode cX1_canReach 5 = .ok (.iconst 0, 1) := by decide +kernel
theorem dX1_canReach_6 : decode cX1_canReach 6 = .ok (.iaload, 1) := by decide +kernel
theorem dX1_canReach_7 : decode cX1_canReach 7 = .ok (.isub, 1) := by decide +kernel
theorem dX1_canReach_8 : decode cX1_canReach 8 = .ok (.invokestatic 29, 3) := by decide +kernel
theorem dX1_canReach_11 : decode cX1_canReach 11 = .ok (.istore_n 3, 1) := by decide +kernel
theorem dX1_canReach_12 : decode cX1_canReach 12 = .ok (.iload_n 3, 1) := by decide +kernel
theorem dX1_canReach_13 : decode cX1_canReach 13 = .ok (.ifCond .le 20, 3) := by decide +kernel
theorem dX1_canReach_16 : decode cX1_canReach 16 = .ok (.aload_n 1, 1) := by decide +kernel
theorem dX1_canReach_17 : decode cX1_canReach 17 = .ok (.getfield 23, 3) := by decide +kernel
theorem dX1_canReach_20 : decode cX1_canReach 20 = .ok (.iconst 1, 1) := by decide +kernel
theorem dX1_canReach_21 : decode cX1_canReach 21 = .ok (.iaload, 1) := by decide +kernel
theorem dX1_canReach_22 : decode cX1_canReach 22 = .ok (.iload_n 3, 1) := by decide +kernel
theorem dX1_canReach_23 : decode cX1_canReach 23 = .ok (.iadd, 1) := by decide +kernel
theorem dX1_canReach_24 : decode cX1_canReach 24 = .ok (.bipush 40, 2) := by decide +kernel
theorem dX1_canReach_26 : decode cX1_canReach 26 = .ok (.if_icmp .gt 7, 3) := by decide +kernel
theorem dX1_canReach_29 : decode cX1_canReach 29 = .ok (.iconst 1, 1) := by decide +kernel
theorem dX1_canReach_30 : decode cX1_canReach 30 = .ok (.goto 4, 3) := by decide +kernel
theorem dX1_canReach_33 : decode cX1_canReach 33 = .ok (.iconst 0, 1) := by decide +kernel
theorem dX1_canReach_34 : decode cX1_canReach 34 = .ok (.ireturn, 1) := by decide +kernel
set_option maxHeartbeats 4000000 in
set_option maxRecDepth 100000 in
theorem cJ_canReach {μ ν : Mm} {s : Nat} (h : JR μ s ν) {v : Int} (hv : 0 ≤ v) (hv2 : v ≤ 20) : CtI PC 1 yX1_canReach cX1_canReach 4 (some .boolean) [vR 76, vR s, vI v] μ (if v ≠ ν.1 17 29 ∧ ¬ 40 < ν.1 17 30 + farF (ν.1 17) v then 1 else 0) := by
  refine ct_intro [some (vR 76), some (vR s), some (vI v), none] RX1 (by decide) rfl XCo rfl (Nat.le_of_ble_eq_true rfl) (fun K hO => ?_)
  have hs := h.ob
  have hnp := h.B.np
  have hnt := h.B.nt
  have hr := h.B.now.rest
  refine aw_iload_n hO dX1_canReach_0 rfl rfl ?_
  refine aw_aload_n hO dX1_canReach_1 rfl rfl ?_
  refine aw_getN (f := 0) hO dX1_canReach_2 rfl okX7 (by decide) (lw_t1n 151 rfl rfl) hs.1 hs.2.1 rfl rfl ?_
  refine aw_iconst hO dX1_canReach_5 rfl ?_
  refine aw_ialdn (N := 98) (i := 0) hO dX1_canReach_6 rfl hs.2.2.1 hs.2.2.2 (by decide) rfl (by decide) ?_
  refine aw_cg h.S.sc.1 ?_
  refine aw_isub hO dX1_canReach_7 rfl ?_
  refine aw_mabs hO dX1_canReach_8 rfl (lw_t3 140 rfl rfl) mth_abs (by decide) rfl (Nat.le_of_ble_eq_true rfl) ⟨by omega, by omega⟩ ?_
  refine aw_nm (fun x e_x => ?_)
  have hx : x = farF (ν.1 17) v := e_x
  have hx2 : 0 ≤ x ∧ x ≤ 20 ∧ (x = 0 ↔ v = ν.1 17 29) := by rw [hx]; unfold farF; split <;> omega
  refine aw_istore_n (ls' := [some (vR 76), some (vR s), some (vI v), some (vI x)]) hO dX1_canReach_11 rfl (Nat.le_of_ble_eq_true rfl) rfl rfl ?_
  refine aw_iload_n hO dX1_canReach_12 rfl rfl ?_
  refine aw_if_le (tgt := 33) hO dX1_canReach_13 rfl rfl ⟨by omega, by omega⟩ (fun c13 => ?_) (fun c13 => ?_)
  · refine aw_iconst hO dX1_canReach_33 rfl ?_
    refine aw_zret hO dX1_canReach_34 (Or.inl rfl) ?_
    exact rI (by rw [if_neg (fun q => q.1 (by omega))])
  · refine aw_aload_n hO dX1_canReach_16 rfl rfl ?_
    refine aw_getN (f := 0) hO dX1_canReach_17 rfl okX7 (by decide) (lw_t1n 151 rfl rfl) hs.1 hs.2.1 rfl rfl ?_
    refine aw_iconst hO dX1_canReach_20 rfl ?_
    refine aw_ialdn (N := 98) (i := 1) hO dX1_canReach_21 rfl hs.2.2.1 hs.2.2.2 (by decide) rfl (by decide) ?_
    refine aw_cg h.S.sc.2.1 ?_
    refine aw_iload_n hO dX1_canReach_22 rfl rfl ?_
    refine aw_iadd hO dX1_canReach_23 rfl ?_
    refine aw_bipush hO dX1_canReach_24 rfl (by decide) (by decide) ?_
    refine aw_icmp_gt (tgt := 33) hO dX1_canReach_26 rfl rfl ⟨by omega, by omega⟩ (inRlit _) (fun c26 => ?_) (fun c26 => ?_)
    · refine aw_iconst hO dX1_canReach_33 rfl ?_
      refine aw_zret hO dX1_canReach_34 (Or.inl rfl) ?_
      exact rI (by rw [if_neg (fun q => q.2 (by rw [← hx]; exact c26))])
    · refine aw_iconst hO dX1_canReach_29 rfl ?_
      refine aw_goto (tgt := 34) hO dX1_canReach_30 rfl ?_
      refine aw_zret hO dX1_canReach_34 (Or.inr rfl) ?_
      exact rI (by rw [if_pos ⟨fun q => by omega, by rw [← hx]; omega⟩])
def metF (f : Nat → Int) (ok : Nat → Bool) (n : Nat) : Nat → Int := fun j => if j < n ∧ ok j = true then min 9 (f j + 1) else f j
theorem metF_0 (f : Nat → Int) (ok : Nat → Bool) : metF f ok 0 = f := by funext j; unfold metF; rw [if_neg (by omega)]
theorem metF_t {f : Nat → Int} {ok : Nat → Bool} {i : Nat} (h : ok i = true) : fu (metF f ok i) i (min 9 (f i + 1)) = metF f ok (i + 1) := by
  funext j
  unfold fu metF
  by_cases e : j = i
  · subst e; rw [if_pos rfl, if_pos ⟨by omega, h⟩]
  · rw [if_neg e, if_iff (show (j < i ∧ ok j = true) ↔ (j < i + 1 ∧ ok j = true) from ⟨fun q => ⟨by omega, q.2⟩, fun q => ⟨by omega, q.2⟩⟩)]
theorem metF_f {f : Nat → Int} {ok : Nat → Bool} {i : Nat} (h : ¬ ok i = true) : metF f ok i = metF f ok (i + 1) := by
  funext j
  unfold metF
  rw [if_iff (show (j < i ∧ ok j = true) ↔ (j < i + 1 ∧ ok j = true) from ⟨fun q => ⟨by omega, q.2⟩, fun q => ⟨by rcases Nat.lt_or_ge j i with z | z; exact z; exact absurd (show ok i = true by rw [show i = j by omega]; exact q.2) h, q.2⟩⟩)]
theorem metF_ge {f : Nat → Int} {ok : Nat → Bool} {n j : Nat} (h : n ≤ j) : metF f ok n j = f j := by unfold metF; rw [if_neg (by omega)]
theorem metF_walk {f : Nat → Int} {ok : Nat → Bool} {n : Nat} {v : Int} (hn : n ≤ 6) : fu (fu (metF f ok n) 30 (f 30 + (max v (f 29) - min v (f 29)))) 29 v = walkF f v ok n := by
  funext j
  unfold walkF
  by_cases e : j = 29
  · subst e; rw [fu_eq, if_neg (by decide), if_pos rfl]
  · rw [fu_ne e]
    by_cases e2 : j = 30
    · subst e2; rw [fu_eq, if_pos rfl]
    · rw [fu_ne e2, if_neg e2, if_neg e]; rfl
theorem ST.met {μ m : Mm} {s : Nat} {G : Nat → Int} {p : Nat} (h : ST μ s G m) (hp : p < 6) (v : Int) : ST μ s (fu G p v) (mst m (s + 1) (9 + p) v) := h.st (by omega) (by omega) (ri_met hp) v
theorem dX1_walkTo_0 : decode cX1_walkTo 0 = .ok (.aload_n 1, 1) := by decide +kernel
theorem dX1_walkTo_1 : decode cX1_walkTo 1 = .ok (.getfield 23, 3) := by decide +kernel
theorem dX1_walkTo_4 : decode cX1_walkTo 4 = .ok (.iconst 0, 1) := by decide +kernel
theorem dX1_walkTo_5 : decode cX1_walkTo 5 = .ok (.iaload, 1) := by decide +kernel
theorem dX1_walkTo_6 : decode cX1_walkTo 6 = .ok (.istore_n 3, 1) := by decide +kernel
theorem dX1_walkTo_7 : decode cX1_walkTo 7 = .ok (.iload_n 3, 1) := by decide +kernel
theorem dX1_walkTo_8 : decode cX1_walkTo 8 = .ok (.iload_n 2, 1) := by decide +kernel
theorem dX1_walkTo_9 : decode cX1_walkTo 9 = .ok (.invokestatic 35, 3) := by decide +kernel
theorem dX1_walkTo_12 : decode cX1_walkTo 12 = .ok (.istore 4, 2) := by decide +kernel
theorem dX1_walkTo_14 : decode cX1_walkTo 14 = .ok (.iload_n 3, 1) := by decide +kernel
theorem dX1_walkTo_15 : decode cX1_walkTo 15 = .ok (.iload_n 2, 1) := by decide +kernel
theorem dX1_walkTo_16 : decode cX1_walkTo 16 = .ok (.invokestatic 39, 3) := by decide +kernel
theorem dX1_walkTo_19 : decode cX1_walkTo 19 = .ok (.istore 5, 2) := by decide +kernel
theorem dX1_walkTo_21 : decode cX1_walkTo 21 = .ok (.iconst 0, 1) := by decide +kernel
theorem dX1_walkTo_22 : decode cX1_walkTo 22 = .ok (.istore 6, 2) := by decide +kernel
theorem dX1_walkTo_24 : decode cX1_walkTo 24 = .ok (.iconst 0, 1) := by decide +kernel
theorem dX1_walkTo_25 : decode cX1_walkTo 25 = .ok (.istore 7, 2) := by decide +kernel
theorem dX1_walkTo_27 : decode cX1_walkTo 27 = .ok (.iload 7, 2) := by decide +kernel
theorem dX1_walkTo_29 : decode cX1_walkTo 29 = .ok (.aload_n 0, 1) := by decide +kernel
theorem dX1_walkTo_30 : decode cX1_walkTo 30 = .ok (.getfield 15, 3) := by decide +kernel
theorem dX1_walkTo_33 : decode cX1_walkTo 33 = .ok (.getfield 42, 3) := by decide +kernel
theorem dX1_walkTo_36 : decode cX1_walkTo 36 = .ok (.if_icmp .ge 55, 3) := by decide +kernel
theorem dX1_walkTo_39 : decode cX1_walkTo 39 = .ok (.aload_n 1, 1) := by decide +kernel
theorem dX1_walkTo_40 : decode cX1_walkTo 40 = .ok (.iload 7, 2) := by decide +kernel
theorem dX1_walkTo_42 : decode cX1_walkTo 42 = .ok (.invokevirtual 48, 3) := by decide +kernel
theorem dX1_walkTo_45 : decode cX1_walkTo 45 = .ok (.ifCond .ne 40, 3) := by decide +kernel
theorem dX1_walkTo_48 : decode cX1_walkTo 48 = .ok (.aload_n 0, 1) := by decide +kernel
theorem dX1_walkTo_49 : decode cX1_walkTo 49 = .ok (.getfield 15, 3) := by decide +kernel
theorem dX1_walkTo_52 : decode cX1_walkTo 52 = .ok (.iload 7, 2) := by decide +kernel
theorem dX1_walkTo_54 : decode cX1_walkTo 54 = .ok (.invokevirtual 52, 3) := by decide +kernel
theorem dX1_walkTo_57 : decode cX1_walkTo 57 = .ok (.iload 4, 2) := by decide +kernel
theorem dX1_walkTo_59 : decode cX1_walkTo 59 = .ok (.if_icmp .lt 26, 3) := by decide +kernel
theorem dX1_walkTo_62 : decode cX1_walkTo 62 = .ok (.aload_n 0, 1) := by decide +kernel
theorem dX1_walkTo_63 : decode cX1_walkTo 63 = .ok (.getfield 15, 3) := by decide +kernel
theorem dX1_walkTo_66 : decode cX1_walkTo 66 = .ok (.iload 7, 2) := by decide +kernel
theorem dX1_walkTo_68 : decode cX1_walkTo 68 = .ok (.invokevirtual 52, 3) := by decide +kernel
theorem dX1_walkTo_71 : decode cX1_walkTo 71 = .ok (.iload 5, 2) := by decide +kernel
theorem dX1_walkTo_73 : decode cX1_walkTo 73 = .ok (.if_icmp .gt 12, 3) := by decide +kernel
theorem dX1_walkTo_76 : decode cX1_walkTo 76 = .ok (.aload_n 1, 1) := by decide +kernel
theorem dX1_walkTo_77 : decode cX1_walkTo 77 = .ok (.iload 7, 2) := by decide +kernel
theorem dX1_walkTo_79 : decode cX1_walkTo 79 = .ok (.invokevirtual 55, 3) := by decide +kernel
theorem dX1_walkTo_82 : decode cX1_walkTo 82 = .ok (.iinc 6 1, 3) := by decide +kernel
theorem dX1_walkTo_85 : decode cX1_walkTo 85 = .ok (.iinc 7 1, 3) := by decide +kernel
theorem dX1_walkTo_88 : decode cX1_walkTo 88 = .ok (.goto (-61), 3) := by decide +kernel
theorem dX1_walkTo_91 : decode cX1_walkTo 91 = .ok (.aload_n 1, 1) := by decide +kernel
theorem dX1_walkTo_92 : decode cX1_walkTo 92 = .ok (.getfield 23, 3) := by decide +kernel
theorem dX1_walkTo_95 : decode cX1_walkTo 95 = .ok (.iconst 1, 1) := by decide +kernel
theorem dX1_walkTo_96 : decode cX1_walkTo 96 = .ok (.dup2, 1) := by decide +kernel
theorem dX1_walkTo_97 : decode cX1_walkTo 97 = .ok (.iaload, 1) := by decide +kernel
theorem dX1_walkTo_98 : decode cX1_walkTo 98 = .ok (.iload 5, 2) := by decide +kernel
theorem dX1_walkTo_100 : decode cX1_walkTo 100 = .ok (.iload 4, 2) := by decide +kernel
theorem dX1_walkTo_102 : decode cX1_walkTo 102 = .ok (.isub, 1) := by decide +kernel
theorem dX1_walkTo_103 : decode cX1_walkTo 103 = .ok (.iadd, 1) := by decide +kernel
theorem dX1_walkTo_104 : decode cX1_walkTo 104 = .ok (.iastore, 1) := by decide +kernel
theorem dX1_walkTo_105 : decode cX1_walkTo 105 = .ok (.aload_n 1, 1) := by decide +kernel
theorem dX1_walkTo_106 : decode cX1_walkTo 106 = .ok (.getfield 23, 3) := by decide +kernel
theorem dX1_walkTo_109 : decode cX1_walkTo 109 = .ok (.iconst 0, 1) := by decide +kernel
theorem dX1_walkTo_110 : decode cX1_walkTo 110 = .ok (.iload_n 2, 1) := by decide +kernel
theorem dX1_walkTo_111 : decode cX1_walkTo 111 = .ok (.iastore, 1) := by decide +kernel
theorem dX1_walkTo_112 : decode cX1_walkTo 112 = .ok (.iload 6, 2) := by decide +kernel
theorem dX1_walkTo_114 : decode cX1_walkTo 114 = .ok (.ireturn, 1) := by decide +kernel
set_option maxRecDepth 100000 in
theorem gC_X1_15_76 {Q : Option AV → Mm → Prop} {K : KT} {cc : ByteArray} {nL d : Nat} {ret : Option FieldType} {pc n : Nat} {ls : List (Option AV)} {st : List AV} {μ : Mm} (hO : KOk PC Q K cc RX1 nL d ret) (hd : decode cc pc = .ok (.getfield 15, 3)) (hn : pc + 3 = n) (kk : AW K n ls (vR 25 :: st) μ) : AW K pc ls (vR 76 :: st) μ := aw_get (f := 0) hO hd hn okX1 (by decide) (lw_t1 216 rfl rfl) (by decide) rfl rfl rfl kk
set_option maxRecDepth 100000 in
theorem gC_X1_42_25 {Q : Option AV → Mm → Prop} {K : KT} {cc : ByteArray} {nL d : Nat} {ret : Option FieldType} {pc n : Nat} {ls : List (Option AV)} {st : List AV} {μ : Mm} (hO : KOk PC Q K cc RX1 nL d ret) (hd : decode cc pc = .ok (.getfield 42, 3)) (hn : pc + 3 = n) (kk : AW K n ls (vI (μ.1 25 1) :: st) μ) : AW K pc ls (vR 25 :: st) μ := aw_getN (f := 1) hO hd hn okX9 (by decide) (lw_t1n 79 rfl rfl) (by decide) rfl rfl rfl kk
set_option maxHeartbeats 4000000 in
set_option maxRecDepth 100000 in
theorem cJ_walkTo {μ ν : Mm} {s : Nat} (h : JR μ s ν) {v : Int} (hv : 0 ≤ v) (hv2 : v ≤ 20) : CtE PC 1 yX1_walkTo cX1_walkTo 8 (some .int) [vR 76, vR s, vI v] μ (fun r m => r = ((cntB (okW ν v) (ν.1 0 25).toNat : Nat) : Int) ∧ ST μ s (walkF (ν.1 17) v (okW ν v) (ν.1 0 25).toNat) m) := by
  refine ct_intro [some (vR 76), some (vR s), some (vI v), none, none, none, none, none] RX1 (by decide) rfl XCo rfl (Nat.le_of_ble_eq_true rfl) (fun K hO => ?_)
  have hs := h.ob
  have hnp := h.B.np
  have hnt := h.B.nt
  have hr := h.B.now.rest
  refine aw_aload_n hO dX1_walkTo_0 rfl rfl ?_
  refine aw_getN (f := 0) hO dX1_walkTo_1 rfl okX7 (by decide) (lw_t1n 151 rfl rfl) hs.1 hs.2.1 rfl rfl ?_
  refine aw_iconst hO dX1_walkTo_4 rfl ?_
  refine aw_ialdn (N := 98) (i := 0) hO dX1_walkTo_5 rfl hs.2.2.1 hs.2.2.2 (by decide) rfl (by decide) ?_
  refine aw_cg h.S.sc.1 ?_
  refine aw_istore_n (ls' := [some (vR 76), some (vR s), some (vI v), some (vI (ν.1 17 29)), none, none, none, none]) hO dX1_walkTo_6 rfl (Nat.le_of_ble_eq_true rfl) rfl rfl ?_
  refine aw_iload_n hO dX1_walkTo_7 rfl rfl ?_
  refine aw_iload_n hO dX1_walkTo_8 rfl rfl ?_
  refine aw_mmin hO dX1_walkTo_9 rfl (lw_t3 152 rfl rfl) mth_min (by decide) rfl (Nat.le_of_ble_eq_true rfl) ⟨by omega, by omega⟩ ⟨by omega, by omega⟩ ?_
  refine aw_nm (fun lo e_lo => ?_)
  have hlo : lo = min v (ν.1 17 29) := by rw [e_lo, Int.min_comm]
  refine aw_istore (ls' := [some (vR 76), some (vR s), some (vI v), some (vI (ν.1 17 29)), some (vI lo), none, none, none]) hO dX1_walkTo_12 rfl (Nat.le_of_ble_eq_true rfl) rfl rfl ?_
  refine aw_iload_n hO dX1_walkTo_14 rfl rfl ?_
  refine aw_iload_n hO dX1_walkTo_15 rfl rfl ?_
  refine aw_mmax hO dX1_walkTo_16 rfl (lw_t3 153 rfl rfl) mth_max (by decide) rfl (Nat.le_of_ble_eq_true rfl) ⟨by omega, by omega⟩ ⟨by omega, by omega⟩ ?_
  refine aw_nm (fun hg e_hg => ?_)
  have hhg : hg = max v (ν.1 17 29) := by rw [e_hg, Int.max_comm]
  refine aw_istore (ls' := [some (vR 76), some (vR s), some (vI v), some (vI (ν.1 17 29)), some (vI lo), some (vI hg), none, none]) hO dX1_walkTo_19 rfl (Nat.le_of_ble_eq_true rfl) rfl rfl ?_
  refine aw_iconst hO dX1_walkTo_21 rfl ?_
  refine aw_istore (ls' := [some (vR 76), some (vR s), some (vI v), some (vI (ν.1 17 29)), some (vI lo), some (vI hg), some (vI 0), none]) hO dX1_walkTo_22 rfl (Nat.le_of_ble_eq_true rfl) rfl rfl ?_
  refine aw_iconst hO dX1_walkTo_24 rfl ?_
  refine aw_istore (ls' := [some (vR 76), some (vR s), some (vI v), some (vI (ν.1 17 29)), some (vI lo), some (vI hg), some (vI 0), some (vI 0)]) hO dX1_walkTo_25 rfl (Nat.le_of_ble_eq_true rfl) rfl rfl ?_
  have lp : ∀ (c : Nat) (i k : Nat) (m : Mm), ((i : Int) + c = ν.1 0 25) → (k = cntB (okW ν v) i) → (ST μ s (metF (ν.1 17) (okW ν v) i) m) → AW K 27 [some (vR 76), some (vR s), some (vI v), some (vI (ν.1 17 29)), some (vI lo), some (vI hg), some (vI ((k : Nat) : Int)), some (vI ((i : Nat) : Int))] [] m := by
    intro c
    induction c with
    | zero =>
      intro i k m hi hk hm
      have hJ0 := ST.j0 h.1 hm h.z
      refine aw_iload hO dX1_walkTo_27 rfl rfl ?_
      refine aw_aload_n hO dX1_walkTo_29 rfl rfl ?_
      refine gC_X1_15_76 hO dX1_walkTo_30 rfl ?_
      refine gC_X1_42_25 hO dX1_walkTo_33 rfl ?_
      refine aw_cg hJ0.T.n ?_
      refine aw_icmp_ge (tgt := 91) hO dX1_walkTo_36 rfl rfl (inRn (by omega)) ⟨by omega, by omega⟩ (fun c36 => ?_) (fun c36 => ?_)
      · refine aw_aload_n hO dX1_walkTo_91 rfl rfl ?_
        refine aw_getN (f := 0) hO dX1_walkTo_92 rfl okX7 (by decide) (lw_t1n 151 rfl rfl) hs.1 hs.2.1 rfl rfl ?_
        refine aw_iconst hO dX1_walkTo_95 rfl ?_
        refine aw_dup2 hO dX1_walkTo_96 rfl rfl rfl ?_
        refine aw_ialdn (N := 98) (i := 1) hO dX1_walkTo_97 rfl hs.2.2.1 hs.2.2.2 (by decide) rfl (by decide) ?_
        refine aw_cg hm.2.1.sc.2.1 ?_
        refine aw_iload hO dX1_walkTo_98 rfl rfl ?_
        refine aw_iload hO dX1_walkTo_100 rfl rfl ?_
        refine aw_isub hO dX1_walkTo_102 rfl ?_
        refine aw_iadd hO dX1_walkTo_103 rfl ?_
        refine aw_iastn (N := 98) (i := 1) hO dX1_walkTo_104 rfl hs.2.2.1 hs.2.2.2 (by decide) rfl (by decide) ?_
        refine aw_mm (fun μ1 e_μ1 => ?_)
        refine aw_aload_n hO dX1_walkTo_105 rfl rfl ?_
        refine aw_getN (f := 0) hO dX1_walkTo_106 rfl okX7 (by decide) (lw_t1n 151 rfl rfl) hs.1 hs.2.1 rfl rfl ?_
        refine aw_iconst hO dX1_walkTo_109 rfl ?_
        refine aw_iload_n hO dX1_walkTo_110 rfl rfl ?_
        refine aw_iastn (N := 98) (i := 0) hO dX1_walkTo_111 rfl hs.2.2.1 hs.2.2.2 (by decide) rfl (by decide) ?_
        refine aw_mm (fun μ2 e_μ2 => ?_)
        refine aw_iload hO dX1_walkTo_112 rfl rfl ?_
        refine aw_iret hO dX1_walkTo_114 ?_
        exact ⟨_, rfl, by rw [hk, show i = (ν.1 0 25).toNat by omega], by
          have e2 := (hm.st (i := 1) (by decide) (by decide) rfl (ν.1 17 30 + (max v (ν.1 17 29) - min v (ν.1 17 29)))).st (i := 0) (by decide) (by decide) rfl v
          rw [show i = (ν.1 0 25).toNat by omega, show fu (fu (metF (ν.1 17) (okW ν v) (ν.1 0 25).toNat) (ri 1) (ν.1 17 30 + (max v (ν.1 17 29) - min v (ν.1 17 29)))) (ri 0) v = walkF (ν.1 17) v (okW ν v) (ν.1 0 25).toNat from metF_walk (by omega)] at e2
          rw [e_μ2, e_μ1, metF_ge (by omega), hhg, hlo]
          exact e2⟩
      · exact absurd c36 (by omega)
    | succ c ih =>
      intro i k m hi hk hm
      have hJ0 := ST.j0 h.1 hm h.z
      refine aw_iload hO dX1_walkTo_27 rfl rfl ?_
      refine aw_aload_n hO dX1_walkTo_29 rfl rfl ?_
      refine gC_X1_15_76 hO dX1_walkTo_30 rfl ?_
      refine gC_X1_42_25 hO dX1_walkTo_33 rfl ?_
      refine aw_cg hJ0.T.n ?_
      refine aw_icmp_ge (tgt := 91) hO dX1_walkTo_36 rfl rfl (inRn (by omega)) ⟨by omega, by omega⟩ (fun c36 => ?_) (fun c36 => ?_)
      · exact absurd c36 (by omega)
      · refine aw_aload_n hO dX1_walkTo_39 rfl rfl ?_
        refine aw_iload hO dX1_walkTo_40 rfl rfl ?_
        refine aw_callVI (as := [vI ((i : Nat) : Int)]) (st := []) hO dX1_walkTo_42 rfl (lw_t3 154 rfl rfl) kX7_isAway (T := TX7) rfl hs.1 hs.2.1 (cJ_isAway hs hm.2.1 i) (by decide) rfl rfl rfl (Nat.le_of_ble_eq_true rfl) ?_
        refine aw_ifz_ne (tgt := 85) hO dX1_walkTo_45 rfl rfl (fun c45 => ?_) (fun c45 => ?_)
        · have hno : ¬ okW ν v i = true := by unfold okW onWay; rw [metF_ge (by omega)] at c45; simp [c45]
          refine aw_iinc (ls' := [some (vR 76), some (vR s), some (vI v), some (vI (ν.1 17 29)), some (vI lo), some (vI hg), some (vI ((k : Nat) : Int)), some (vI (((i : Nat) : Int) + 1))]) hO dX1_walkTo_85 rfl rfl rfl rfl ?_
          refine aw_lsq (ls' := [some (vR 76), some (vR s), some (vI v), some (vI (ν.1 17 29)), some (vI lo), some (vI hg), some (vI ((k : Nat) : Int)), some (vI (((i + 1) : Nat) : Int))]) rfl ?_
          refine aw_goto (tgt := 27) hO dX1_walkTo_88 rfl ?_
          refine aw_lsq (ls' := [some (vR 76), some (vR s), some (vI v), some (vI (ν.1 17 29)), some (vI lo), some (vI hg), some (vI ((k : Nat) : Int)), some (vI (((i + 1) : Nat) : Int))]) rfl ?_
          exact ih (i + 1) k m (by omega) (by rw [cntB, if_neg hno]; exact hk) (by rw [← metF_f hno]; exact hm)
        · have hna : hasB (ν.1 17 31) i = false := by rw [metF_ge (by omega)] at c45; simpa using c45
          have hdr := h.B.per (p := i) (k := 3) (by omega) (by decide)
          refine aw_aload_n hO dX1_walkTo_48 rfl rfl ?_
          refine gC_X1_15_76 hO dX1_walkTo_49 rfl ?_
          refine aw_iload hO dX1_walkTo_52 rfl rfl ?_
          refine aw_callVI (as := [vI ((i : Nat) : Int)]) (st := []) hO dX1_walkTo_54 rfl (lw_t3 158 rfl rfl) kX9_door (T := TX9) rfl (by decide) rfl (cJ_door hJ0 (p := i) (by omega)) (by decide) rfl rfl rfl (Nat.le_of_ble_eq_true rfl) ?_
          refine aw_iload hO dX1_walkTo_57 rfl rfl ?_
          refine aw_icmp_lt (tgt := 85) hO dX1_walkTo_59 rfl rfl ⟨by omega, by omega⟩ ⟨by omega, by omega⟩ (fun c59 => ?_) (fun c59 => ?_)
          · have hno : ¬ okW ν v i = true := by unfold okW onWay; simp only [hna, Bool.not_false, Bool.true_and, decide_eq_true_eq]; omega
            refine aw_iinc (ls' := [some (vR 76), some (vR s), some (vI v), some (vI (ν.1 17 29)), some (vI lo), some (vI hg), some (vI ((k : Nat) : Int)), some (vI (((i : Nat) : Int) + 1))]) hO dX1_walkTo_85 rfl rfl rfl rfl ?_
            refine aw_lsq (ls' := [some (vR 76), some (vR s), some (vI v), some (vI (ν.1 17 29)), some (vI lo), some (vI hg), some (vI ((k : Nat) : Int)), some (vI (((i + 1) : Nat) : Int))]) rfl ?_
            refine aw_goto (tgt := 27) hO dX1_walkTo_88 rfl ?_
            refine aw_lsq (ls' := [some (vR 76), some (vR s), some (vI v), some (vI (ν.1 17 29)), some (vI lo), some (vI hg), some (vI ((k : Nat) : Int)), some (vI (((i + 1) : Nat) : Int))]) rfl ?_
            exact ih (i + 1) k m (by omega) (by rw [cntB, if_neg hno]; exact hk) (by rw [← metF_f hno]; exact hm)
          · refine aw_aload_n hO dX1_walkTo_62 rfl rfl ?_
            refine gC_X1_15_76 hO dX1_walkTo_63 rfl ?_
            refine aw_iload hO dX1_walkTo_66 rfl rfl ?_
            refine aw_callVI (as := [vI ((i : Nat) : Int)]) (st := []) hO dX1_walkTo_68 rfl (lw_t3 158 rfl rfl) kX9_door (T := TX9) rfl (by decide) rfl (cJ_door hJ0 (p := i) (by omega)) (by decide) rfl rfl rfl (Nat.le_of_ble_eq_true rfl) ?_
            refine aw_iload hO dX1_walkTo_71 rfl rfl ?_
            refine aw_icmp_gt (tgt := 85) hO dX1_walkTo_73 rfl rfl ⟨by omega, by omega⟩ ⟨by omega, by omega⟩ (fun c73 => ?_) (fun c73 => ?_)
            · have hno : ¬ okW ν v i = true := by unfold okW onWay; simp only [hna, Bool.not_false, Bool.true_and, decide_eq_true_eq]; omega
              refine aw_iinc (ls' := [some (vR 76), some (vR s), some (vI v), some (vI (ν.1 17 29)), some (vI lo), some (vI hg), some (vI ((k : Nat) : Int)), some (vI (((i : Nat) : Int) + 1))]) hO dX1_walkTo_85 rfl rfl rfl rfl ?_
              refine aw_lsq (ls' := [some (vR 76), some (vR s), some (vI v), some (vI (ν.1 17 29)), some (vI lo), some (vI hg), some (vI ((k : Nat) : Int)), some (vI (((i + 1) : Nat) : Int))]) rfl ?_
              refine aw_goto (tgt := 27) hO dX1_walkTo_88 rfl ?_
              refine aw_lsq (ls' := [some (vR 76), some (vR s), some (vI v), some (vI (ν.1 17 29)), some (vI lo), some (vI hg), some (vI ((k : Nat) : Int)), some (vI (((i + 1) : Nat) : Int))]) rfl ?_
              exact ih (i + 1) k m (by omega) (by rw [cntB, if_neg hno]; exact hk) (by rw [← metF_f hno]; exact hm)
            · have hyes : okW ν v i = true := by unfold okW onWay; simp only [hna, Bool.not_false, Bool.true_and, decide_eq_true_eq]; omega
              have hmt := h.B.now.met (p := i) (by omega)
              have hmi : m.1 (s + 1) (9 + i) = ν.1 17 i := by rw [hm.2.1.met (by omega), metF_ge (by omega)]
              refine aw_aload_n hO dX1_walkTo_76 rfl rfl ?_
              refine aw_iload hO dX1_walkTo_77 rfl rfl ?_
              refine aw_callVV (as := [vI ((i : Nat) : Int)]) (st := []) hO dX1_walkTo_79 rfl (lw_t3 162 rfl rfl) kX7_meet (T := TX7) rfl hs.1 hs.2.1 (ctC_7_meet m hs (p := i) (by omega) (by rw [hmi]; exact hmt)) (by decide) rfl rfl rfl (Nat.le_of_ble_eq_true rfl) (fun μ4 hq5 => ?_)
              have e_μ4 := hq5
              refine aw_iinc (ls' := [some (vR 76), some (vR s), some (vI v), some (vI (ν.1 17 29)), some (vI lo), some (vI hg), some (vI (((k : Nat) : Int) + 1)), some (vI ((i : Nat) : Int))]) hO dX1_walkTo_82 rfl rfl rfl rfl ?_
              refine aw_lsq (ls' := [some (vR 76), some (vR s), some (vI v), some (vI (ν.1 17 29)), some (vI lo), some (vI hg), some (vI (((k + 1) : Nat) : Int)), some (vI ((i : Nat) : Int))]) rfl ?_
              refine aw_iinc (ls' := [some (vR 76), some (vR s), some (vI v), some (vI (ν.1 17 29)), some (vI lo), some (vI hg), some (vI (((k + 1) : Nat) : Int)), some (vI (((i : Nat) : Int) + 1))]) hO dX1_walkTo_85 rfl rfl rfl rfl ?_
              refine aw_lsq (ls' := [some (vR 76), some (vR s), some (vI v), some (vI (ν.1 17 29)), some (vI lo), some (vI hg), some (vI (((k + 1) : Nat) : Int)), some (vI (((i + 1) : Nat) : Int))]) rfl ?_
              refine aw_goto (tgt := 27) hO dX1_walkTo_88 rfl ?_
              refine aw_lsq (ls' := [some (vR 76), some (vR s), some (vI v), some (vI (ν.1 17 29)), some (vI lo), some (vI hg), some (vI (((k + 1) : Nat) : Int)), some (vI (((i + 1) : Nat) : Int))]) rfl ?_
              exact ih (i + 1) (k + 1) μ4 (by omega) (by rw [cntB, if_pos hyes, hk]) (by rw [e_μ4, hmi, ← metF_t hyes]; exact hm.met (by omega) _)
  refine aw_lsq (ls' := [some (vR 76), some (vR s), some (vI v), some (vI (ν.1 17 29)), some (vI lo), some (vI hg), some (vI ((0 : Nat) : Int)), some (vI ((0 : Nat) : Int))]) rfl ?_
  exact lp (ν.1 0 25).toNat 0 0 μ (by omega) rfl (by rw [metF_0]; exact ST.rf h.S)
theorem dX1_metBy_0 : decode cX1_metBy 0 = .ok (.iconst 0, 1) := by decide +kernel
theorem dX1_metBy_1 : decode cX1_metBy 1 = .ok (.istore_n 3, 1) := by decide +kernel
theorem dX1_metBy_2 : decode cX1_metBy 2 = .ok (.iconst 0, 1) := by decide +kernel
theorem dX1_metBy_3 : decode cX1_metBy 3 = .ok (.istore 4, 2) := by decide +kernel
theorem dX1_metBy_5 : decode cX1_metBy 5 = .ok (.iload_n 2, 1) := by decide +kernel
theorem dX1_metBy_6 : decode cX1_metBy 6 = .ok (.iconst (-1), 1) := by decide +kernel
theorem dX1_metBy_7 : decode cX1_metBy 7 = .ok (.if_icmp .eq 54, 3) := by decide +kernel
theorem dX1_metBy_10 : decode cX1_metBy 10 = .ok (.iload 4, 2) := by decide +kernel
theorem dX1_metBy_12 : decode cX1_metBy 12 = .ok (.aload_n 0, 1) := by decide +kernel
theorem dX1_metBy_13 : decode cX1_metBy 13 = .ok (.getfield 15, 3) := by decide +kernel
theorem dX1_metBy_16 : decode cX1_metBy 16 = .ok (.getfield 76, 3) := by decide +kernel
theorem dX1_metBy_19 : decode cX1_metBy 19 = .ok (.if_icmp .ge 42, 3) := by decide +kernel
theorem dX1_metBy_22 : decode cX1_metBy 22 = .ok (.aload_n 0, 1) := by decide +kernel
theorem dX1_metBy_23 : decode cX1_metBy 23 = .ok (.getfield 15, 3) := by decide +kernel
theorem dX1_metBy_26 : decode cX1_metBy 26 = .ok (.iload_n 2, 1) := by decide +kernel
theorem dX1_metBy_27 : decode cX1_metBy 27 = .ok (.aload_n 0, 1) := by decide +kernel
theorem dX1_metBy_28 : decode cX1_metBy 28 = .ok (.getfield 15, 3) := by decide +kernel
theorem dX1_metBy_31 : decode cX1_metBy 31 = .ok (.iload 4, 2) := by decide +kernel
theorem dX1_metBy_33 : decode cX1_metBy 33 = .ok (.invokevirtual 99, 3) := by decide +kernel
theorem dX1_metBy_36 : decode cX1_metBy 36 = .ok (.invokevirtual 102, 3) := by decide +kernel
theorem dX1_metBy_39 : decode cX1_metBy 39 = .ok (.aload_n 1, 1) := by decide +kernel
theorem dX1_metBy_40 : decode cX1_metBy 40 = .ok (.iload 4, 2) := by decide +kernel
theorem dX1_metBy_42 : decode cX1_metBy 42 = .ok (.invokevirtual 79, 3) := by decide +kernel
theorem dX1_metBy_45 : decode cX1_metBy 45 = .ok (.if_icmp .lt 10, 3) := by decide +kernel
theorem dX1_metBy_48 : decode cX1_metBy 48 = .ok (.iload_n 3, 1) := by decide +kernel
theorem dX1_metBy_49 : decode cX1_metBy 49 = .ok (.iconst 1, 1) := by decide +kernel
theorem dX1_metBy_50 : decode cX1_metBy 50 = .ok (.iload 4, 2) := by decide +kernel
theorem dX1_metBy_52 : decode cX1_metBy 52 = .ok (.ishl, 1) := by decide +kernel
theorem dX1_metBy_53 : decode cX1_metBy 53 = .ok (.ior, 1) := by decide +kernel
theorem dX1_metBy_54 : decode cX1_metBy 54 = .ok (.istore_n 3, 1) := by decide +kernel
theorem dX1_metBy_55 : decode cX1_metBy 55 = .ok (.iinc 4 1, 3) := by decide +kernel
theorem dX1_metBy_58 : decode cX1_metBy 58 = .ok (.goto (-53), 3) := by decide +kernel
theorem dX1_metBy_61 : decode cX1_metBy 61 = .ok (.iload_n 3, 1) := by decide +kernel
theorem dX1_metBy_62 : decode cX1_metBy 62 = .ok (.ireturn, 1) := by decide +kernel
set_option maxHeartbeats 4000000 in
set_option maxRecDepth 100000 in
theorem cJ_metByN {μ ν : Mm} {s : Nat} {G : Nat → Int} (h : JR0 μ ν) (hs : Sob s) (hS : SR (μ.1 (s + 1)) G) (hA : ∀ t, t < 5 → G (24 + t) = ν.1 17 (24 + t))  : CtI PC 1 yX1_metBy cX1_metBy 5 (some .int) [vR 76, vR s, vI (-1)] μ (metM ν (-1) (ν.1 0 26).toNat) := by
  refine ct_intro [some (vR 76), some (vR s), some (vI (-1)), none, none] RX1 (by decide) rfl XCo rfl (Nat.le_of_ble_eq_true rfl) (fun K hO => ?_)
  have hnp := h.B.np
  have hnt := h.B.nt
  refine aw_iconst hO dX1_metBy_0 rfl ?_
  refine aw_istore_n (ls' := [some (vR 76), some (vR s), some (vI (-1)), some (vI 0), none]) hO dX1_metBy_1 rfl (Nat.le_of_ble_eq_true rfl) rfl rfl ?_
  refine aw_iconst hO dX1_metBy_2 rfl ?_
  refine aw_istore (ls' := [some (vR 76), some (vR s), some (vI (-1)), some (vI 0), some (vI 0)]) hO dX1_metBy_3 rfl (Nat.le_of_ble_eq_true rfl) rfl rfl ?_
  refine aw_iload_n hO dX1_metBy_5 rfl rfl ?_
  refine aw_iconst hO dX1_metBy_6 rfl ?_
  refine aw_icmp_eq (tgt := 61) hO dX1_metBy_7 rfl rfl (inRlit _) (inRlit _) (fun c7 => ?_) (fun c7 => ?_)
  · refine aw_iload_n hO dX1_metBy_61 rfl rfl ?_
    refine aw_iret hO dX1_metBy_62 ?_
    exact rI metM_n.symm
  · exact absurd c7 (by omega)
set_option maxRecDepth 100000 in
theorem gC_X1_76_25 {Q : Option AV → Mm → Prop} {K : KT} {cc : ByteArray} {nL d : Nat} {ret : Option FieldType} {pc n : Nat} {ls : List (Option AV)} {st : List AV} {μ : Mm} (hO : KOk PC Q K cc RX1 nL d ret) (hd : decode cc pc = .ok (.getfield 76, 3)) (hn : pc + 3 = n) (kk : AW K n ls (vI (μ.1 25 2) :: st) μ) : AW K pc ls (vR 25 :: st) μ := aw_getN (f := 2) hO hd hn okX9 (by decide) (lw_t1n 87 rfl rfl) (by decide) rfl rfl rfl kk
set_option maxHeartbeats 4000000 in
set_option maxRecDepth 100000 in
theorem cJ_metByP {μ ν : Mm} {s : Nat} {G : Nat → Int} (h : JR0 μ ν) (hs : Sob s) (hS : SR (μ.1 (s + 1)) G) (hA : ∀ t, t < 5 → G (24 + t) = ν.1 17 (24 + t)) {p : Nat} (hp : (p : Int) < ν.1 0 25) : CtI PC 1 yX1_metBy cX1_metBy 5 (some .int) [vR 76, vR s, vI ((p : Nat) : Int)] μ (metM ν (p : Int) (ν.1 0 26).toNat) := by
  refine ct_intro [some (vR 76), some (vR s), some (vI ((p : Nat) : Int)), none, none] RX1 (by decide) rfl XCo rfl (Nat.le_of_ble_eq_true rfl) (fun K hO => ?_)
  have hnp := h.B.np
  have hnt := h.B.nt
  have lp : ∀ (c : Nat) (t : Nat) (b : Int), ((t : Int) + c = ν.1 0 26) → (b = metM ν (p : Int) t) → AW K 5 [some (vR 76), some (vR s), some (vI ((p : Nat) : Int)), some (vI b), some (vI ((t : Nat) : Int))] [] μ := by
    intro c
    induction c with
    | zero =>
      intro t b hi hb
      refine aw_iload_n hO dX1_metBy_5 rfl rfl ?_
      refine aw_iconst hO dX1_metBy_6 rfl ?_
      refine aw_icmp_eq (tgt := 61) hO dX1_metBy_7 rfl rfl (inRn (by omega)) (inRlit _) (fun c7 => ?_) (fun c7 => ?_)
      · exact absurd c7 (by omega)
      · refine aw_iload hO dX1_metBy_10 rfl rfl ?_
        refine aw_aload_n hO dX1_metBy_12 rfl rfl ?_
        refine gC_X1_15_76 hO dX1_metBy_13 rfl ?_
        refine gC_X1_76_25 hO dX1_metBy_16 rfl ?_
        refine aw_cg h.T.t ?_
        refine aw_icmp_ge (tgt := 61) hO dX1_metBy_19 rfl rfl (inRn (by omega)) ⟨by omega, by omega⟩ (fun c19 => ?_) (fun c19 => ?_)
        · refine aw_iload_n hO dX1_metBy_61 rfl rfl ?_
          refine aw_iret hO dX1_metBy_62 ?_
          exact rI (by rw [hb, show t = (ν.1 0 26).toNat by omega])
        · exact absurd c19 (by omega)
    | succ c ih =>
      intro t b hi hb
      have htr := h.B.tr (t := t) (by omega)
      have hpe := h.B.per (p := p) (k := (ν.1 16 (3 * t)).toNat) (by omega) (by omega)
      have hask := h.B.now.ask (j := 24 + t) (by omega) (by omega)
      refine aw_iload_n hO dX1_metBy_5 rfl rfl ?_
      refine aw_iconst hO dX1_metBy_6 rfl ?_
      refine aw_icmp_eq (tgt := 61) hO dX1_metBy_7 rfl rfl (inRn (by omega)) (inRlit _) (fun c7 => ?_) (fun c7 => ?_)
      · exact absurd c7 (by omega)
      · refine aw_iload hO dX1_metBy_10 rfl rfl ?_
        refine aw_aload_n hO dX1_metBy_12 rfl rfl ?_
        refine gC_X1_15_76 hO dX1_metBy_13 rfl ?_
        refine gC_X1_76_25 hO dX1_metBy_16 rfl ?_
        refine aw_cg h.T.t ?_
        refine aw_icmp_ge (tgt := 61) hO dX1_metBy_19 rfl rfl (inRn (by omega)) ⟨by omega, by omega⟩ (fun c19 => ?_) (fun c19 => ?_)
        · exact absurd c19 (by omega)
        · refine aw_aload_n hO dX1_metBy_22 rfl rfl ?_
          refine gC_X1_15_76 hO dX1_metBy_23 rfl ?_
          refine aw_iload_n hO dX1_metBy_26 rfl rfl ?_
          refine aw_aload_n hO dX1_metBy_27 rfl rfl ?_
          refine gC_X1_15_76 hO dX1_metBy_28 rfl ?_
          refine aw_iload hO dX1_metBy_31 rfl rfl ?_
          refine aw_callVI (as := [vI ((t : Nat) : Int)]) (st := [vI ((p : Nat) : Int), vR 25]) hO dX1_metBy_33 rfl (lw_t4 53 rfl rfl) kX9_asksFor (T := TX9) rfl (by decide) rfl (cJ_asksFor h (t := t) (by omega)) (by decide) rfl rfl rfl (Nat.le_of_ble_eq_true rfl) ?_
          refine aw_cg (Int.toNat_of_nonneg htr.1.1).symm ?_
          refine aw_callVI (as := [vI ((p : Nat) : Int), vI (((ν.1 16 (3 * t)).toNat : Nat) : Int)]) (st := []) hO dX1_metBy_36 rfl (lw_t4 54 rfl rfl) kX9_trait (T := TX9) rfl (by decide) rfl (cJ_trait h (p := p) (k := (ν.1 16 (3 * t)).toNat) (by omega) (by omega)) (by decide) rfl rfl rfl (Nat.le_of_ble_eq_true rfl) ?_
          refine aw_aload_n hO dX1_metBy_39 rfl rfl ?_
          refine aw_iload hO dX1_metBy_40 rfl rfl ?_
          refine aw_callVI (as := [vI ((t : Nat) : Int)]) (st := [vI (ν.1 15 (4 * p + ((ν.1 16 (3 * t)).toNat)))]) hO dX1_metBy_42 rfl (lw_t4 55 rfl rfl) kX7_asks (T := TX7) rfl hs.1 hs.2.1 (cJ_asks hs hS (p := t) (by omega)) (by decide) rfl rfl rfl (Nat.le_of_ble_eq_true rfl) ?_
          refine aw_icmp_lt (tgt := 55) hO dX1_metBy_45 rfl rfl ⟨by omega, by omega⟩ (by rw [hA t (by omega)]; exact ⟨by omega, by omega⟩) (fun c45 => ?_) (fun c45 => ?_)
          · refine aw_iinc (ls' := [some (vR 76), some (vR s), some (vI ((p : Nat) : Int)), some (vI b), some (vI (((t : Nat) : Int) + 1))]) hO dX1_metBy_55 rfl rfl rfl rfl ?_
            refine aw_lsq (ls' := [some (vR 76), some (vR s), some (vI ((p : Nat) : Int)), some (vI b), some (vI (((t + 1) : Nat) : Int))]) rfl ?_
            refine aw_goto (tgt := 5) hO dX1_metBy_58 rfl ?_
            refine aw_lsq (ls' := [some (vR 76), some (vR s), some (vI ((p : Nat) : Int)), some (vI b), some (vI (((t + 1) : Nat) : Int))]) rfl ?_
            exact ih (t + 1) b (by omega) (by rw [metM_s (by omega), if_neg (by rw [hA t (by omega)] at c45; rw [Int.toNat_natCast]; omega), ← hb, bOr_z (by rw [hb]; exact metM_R _ _ _)])
          · refine aw_iload_n hO dX1_metBy_48 rfl rfl ?_
            refine aw_iconst hO dX1_metBy_49 rfl ?_
            refine aw_iload hO dX1_metBy_50 rfl rfl ?_
            refine aw_ishl hO dX1_metBy_52 rfl ?_
            refine aw_ior hO dX1_metBy_53 rfl ?_
            refine aw_istore_n (ls' := [some (vR 76), some (vR s), some (vI ((p : Nat) : Int)), some (vI (bOr b (bShl 1 ((t : Nat) : Int)))), some (vI ((t : Nat) : Int))]) hO dX1_metBy_54 rfl (Nat.le_of_ble_eq_true rfl) rfl rfl ?_
            refine aw_iinc (ls' := [some (vR 76), some (vR s), some (vI ((p : Nat) : Int)), some (vI (bOr b (bShl 1 ((t : Nat) : Int)))), some (vI (((t : Nat) : Int) + 1))]) hO dX1_metBy_55 rfl rfl rfl rfl ?_
            refine aw_lsq (ls' := [some (vR 76), some (vR s), some (vI ((p : Nat) : Int)), some (vI (bOr b (bShl 1 ((t : Nat) : Int)))), some (vI (((t + 1) : Nat) : Int))]) rfl ?_
            refine aw_goto (tgt := 5) hO dX1_metBy_58 rfl ?_
            refine aw_lsq (ls' := [some (vR 76), some (vR s), some (vI ((p : Nat) : Int)), some (vI (bOr b (bShl 1 ((t : Nat) : Int)))), some (vI (((t + 1) : Nat) : Int))]) rfl ?_
            exact ih (t + 1) _ (by omega) (by rw [metM_s (by omega), if_pos (by rw [hA t (by omega)] at c45; exact c45), ← hb])
  refine aw_iconst hO dX1_metBy_0 rfl ?_
  refine aw_istore_n (ls' := [some (vR 76), some (vR s), some (vI ((p : Nat) : Int)), some (vI 0), none]) hO dX1_metBy_1 rfl (Nat.le_of_ble_eq_true rfl) rfl rfl ?_
  refine aw_iconst hO dX1_metBy_2 rfl ?_
  refine aw_istore (ls' := [some (vR 76), some (vR s), some (vI ((p : Nat) : Int)), some (vI 0), some (vI 0)]) hO dX1_metBy_3 rfl (Nat.le_of_ble_eq_true rfl) rfl rfl ?_
  refine aw_lsq (ls' := [some (vR 76), some (vR s), some (vI ((p : Nat) : Int)), some (vI 0), some (vI ((0 : Nat) : Int))]) rfl ?_
  exact lp (ν.1 0 26).toNat 0 0 (by omega) metM_0.symm
theorem cJ_metBy {μ ν : Mm} {s : Nat} {G : Nat → Int} (h : JR0 μ ν) (hs : Sob s) (hS : SR (μ.1 (s + 1)) G) (hA : ∀ t, t < 5 → G (24 + t) = ν.1 17 (24 + t)) {q : Int} (hq : q = -1 ∨ (0 ≤ q ∧ q < ν.1 0 25)) : CtI PC 1 yX1_metBy cX1_metBy 5 (some .int) [vR 76, vR s, vI q] μ (metM ν q (ν.1 0 26).toNat) := by
  rcases hq with rfl | hq
  · exact cJ_metByN h hs hS hA
  · obtain ⟨p, rfl⟩ : ∃ p : Nat, q = (p : Int) := ⟨q.toNat, by omega⟩
    exact cJ_metByP h hs hS hA hq.2
