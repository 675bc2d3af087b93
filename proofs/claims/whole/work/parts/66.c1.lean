
/-! ## the class: states, towns -/
/-- an object that is a state: its row is the next cell -/
def Sob (s : Nat) : Prop := s < 86 ∧ layC s = .inr (.inr (7, [s + 1 + 3])) ∧ s + 1 < 86 ∧ layC (s + 1) = .inl (.int, 98)
theorem sob27 : Sob 27 := ⟨by decide, rfl, by decide, rfl⟩
theorem sob29 : Sob 29 := ⟨by decide, rfl, by decide, rfl⟩
theorem sob78 : Sob 78 := ⟨by decide, rfl, by decide, rfl⟩
theorem dX11_within_0 : decode cX11_within 0 = .ok (.lload_n 0, 1) := by decide +kernel
theorem dX11_within_1 : decode cX11_within 1 = .ok (.iload_n 2, 1) := by decide +kernel
theorem dX11_within_2 : decode cX11_within 2 = .ok (.i2l, 1) := by decide +kernel
theorem dX11_within_3 : decode cX11_within 3 = .ok (.lcmp, 1) := by decide +kernel
theorem dX11_within_4 : decode cX11_within 4 = .ok (.ifCond .le 5, 3) := by decide +kernel
theorem dX11_within_7 : decode cX11_within 7 = .ok (.iload_n 2, 1) := by decide +kernel
theorem dX11_within_8 : decode cX11_within 8 = .ok (.ireturn, 1) := by decide +kernel
theorem dX11_within_9 : decode cX11_within 9 = .ok (.lload_n 0, 1) := by decide +kernel
theorem dX11_within_10 : decode cX11_within 10 = .ok (.iload_n 2, 1) := by decide +kernel
theorem dX11_within_11 : decode cX11_within 11 = .ok (.ineg, 1) := by decide +kernel
theorem dX11_within_12 : decode cX11_within 12 = .ok (.i2l, 1) := by decide +kernel
theorem dX11_within_13 : decode cX11_within 13 = .ok (.lcmp, 1) := by decide +kernel
theorem dX11_within_14 : decode cX11_within 14 = .ok (.ifCond .ge 8, 3) := by decide +kernel
theorem dX11_within_17 : decode cX11_within 17 = .ok (.iload_n 2, 1) := by decide +kernel
theorem dX11_within_18 : decode cX11_within 18 = .ok (.ineg, 1) := by decide +kernel
theorem dX11_within_19 : decode cX11_within 19 = .ok (.goto 5, 3) := by decide +kernel
theorem dX11_within_22 : decode cX11_within 22 = .ok (.lload_n 0, 1) := by decide +kernel
theorem dX11_within_23 : decode cX11_within 23 = .ok (.l2i, 1) := by decide +kernel
theorem dX11_within_24 : decode cX11_within 24 = .ok (.ireturn, 1) := by decide +kernel
set_option maxHeartbeats 4000000 in
set_option maxRecDepth 100000 in
theorem ctC_within (μ : Mm) {v m : Int} (hv : InL v) (hm : 0 ≤ m) (hm2 : m ≤ 2000000) : CtI PC 0 yX11_within cX11_within 3 (some .int) [vL v, vI m] μ (clampI m v) := by
  refine ct_intro [some (vL v), none, some (vI m)] RX11 (by decide) rfl XCo rfl (Nat.le_of_ble_eq_true rfl) (fun K hO => ?_)
  refine aw_lload_n hO dX11_within_0 rfl rfl ?_
  refine aw_iload_n hO dX11_within_1 rfl rfl ?_
  refine aw_i2l hO dX11_within_2 rfl ⟨by omega, by omega⟩ ?_
  refine aw_lcmp hO dX11_within_3 rfl hv ⟨by omega, by omega⟩ ?_
  refine aw_if_le (tgt := 9) hO dX11_within_4 rfl rfl ⟨by unfold sCmp; split <;> (try split) <;> omega, by unfold sCmp; split <;> (try split) <;> omega⟩ (fun c4 => ?_) (fun c4 => ?_)
  · have c4b : ¬ m < v := fun e => by have := sCmp_gt.mpr e; omega
    refine aw_lload_n hO dX11_within_9 rfl rfl ?_
    refine aw_iload_n hO dX11_within_10 rfl rfl ?_
    refine aw_ineg hO dX11_within_11 rfl ?_
    refine aw_i2l hO dX11_within_12 rfl ⟨by omega, by omega⟩ ?_
    refine aw_lcmp hO dX11_within_13 rfl hv ⟨by omega, by omega⟩ ?_
    refine aw_if_ge (tgt := 22) hO dX11_within_14 rfl rfl ⟨by unfold sCmp; split <;> (try split) <;> omega, by unfold sCmp; split <;> (try split) <;> omega⟩ (fun c14 => ?_) (fun c14 => ?_)
    · have c14b : ¬ v < -m := fun e => by have := sCmp_lt.mpr e; omega
      refine aw_lload_n hO dX11_within_22 rfl rfl ?_
      refine aw_l2i hO dX11_within_23 rfl ?_
      refine aw_iret hO dX11_within_24 ?_
      exact rI (by unfold clampI; omega)
    · have c14b := sCmp_lt.mp c14
      refine aw_iload_n hO dX11_within_17 rfl rfl ?_
      refine aw_ineg hO dX11_within_18 rfl ?_
      refine aw_goto (tgt := 24) hO dX11_within_19 rfl ?_
      refine aw_iret hO dX11_within_24 ?_
      exact rI (by unfold clampI; omega)
  · have c4b := sCmp_gt.mp c4
    refine aw_iload_n hO dX11_within_7 rfl rfl ?_
    refine aw_iret hO dX11_within_8 ?_
    exact rI (by unfold clampI; omega)
theorem dX11_highest_0 : decode cX11_highest 0 = .ok (.iconst (-1), 1) := by decide +kernel
theorem dX11_highest_1 : decode cX11_highest 1 = .ok (.istore_n 2, 1) := by decide +kernel
theorem dX11_highest_2 : decode cX11_highest 2 = .ok (.iconst 0, 1) := by decide +kernel
theorem dX11_highest_3 : decode cX11_highest 3 = .ok (.istore_n 3, 1) := by decide +kernel
theorem dX11_highest_4 : decode cX11_highest 4 = .ok (.iload_n 3, 1) := by decide +kernel
theorem dX11_highest_5 : decode cX11_highest 5 = .ok (.aload_n 0, 1) := by decide +kernel
theorem dX11_highest_6 : decode cX11_highest 6 = .ok (.arraylength, 1) := by decide +kernel
theorem dX11_highest_7 : decode cX11_highest 7 = .ok (.if_icmp .ge 34, 3) := by decide +kernel
theorem dX11_highest_10 : decode cX11_highest 10 = .ok (.iload_n 1, 1) := by decide +kernel
theorem dX11_highest_11 : decode cX11_highest 11 = .ok (.iload_n 3, 1) := by decide +kernel
theorem dX11_highest_12 : decode cX11_highest 12 = .ok (.ishr, 1) := by decide +kernel
theorem dX11_highest_13 : decode cX11_highest 13 = .ok (.iconst 1, 1) := by decide +kernel
theorem dX11_highest_14 : decode cX11_highest 14 = .ok (.iand, 1) := by decide +kernel
theorem dX11_highest_15 : decode cX11_highest 15 = .ok (.iconst 1, 1) := by decide +kernel
theorem dX11_highest_16 : decode cX11_highest 16 = .ok (.if_icmp .ne 19, 3) := by decide +kernel
theorem dX11_highest_19 : decode cX11_highest 19 = .ok (.iload_n 2, 1) := by decide +kernel
theorem dX11_highest_20 : decode cX11_highest 20 = .ok (.iconst (-1), 1) := by decide +kernel
theorem dX11_highest_21 : decode cX11_highest 21 = .ok (.if_icmp .eq 12, 3) := by decide +kernel
theorem dX11_highest_24 : decode cX11_highest 24 = .ok (.aload_n 0, 1) := by decide +kernel
theorem dX11_highest_25 : decode cX11_highest 25 = .ok (.iload_n 3, 1) := by decide +kernel
theorem dX11_highest_26 : decode cX11_highest 26 = .ok (.iaload, 1) := by decide +kernel
theorem dX11_highest_27 : decode cX11_highest 27 = .ok (.aload_n 0, 1) := by decide +kernel
theorem dX11_highest_28 : decode cX11_highest 28 = .ok (.iload_n 2, 1) := by decide +kernel
theorem dX11_highest_29 : decode cX11_highest 29 = .ok (.iaload, 1) := by decide +kernel
theorem dX11_highest_30 : decode cX11_highest 30 = .ok (.if_icmp .le 5, 3) := by decide +kernel
theorem dX11_highest_33 : decode cX11_highest 33 = .ok (.iload_n 3, 1) := by decide +kernel
theorem dX11_highest_34 : decode cX11_highest 34 = .ok (.istore_n 2, 1) := by decide +kernel
theorem dX11_highest_35 : decode cX11_highest 35 = .ok (.iinc 3 1, 3) := by decide +kernel
theorem dX11_highest_38 : decode cX11_highest 38 = .ok (.goto (-34), 3) := by decide +kernel
theorem dX11_highest_41 : decode cX11_highest 41 = .ok (.iload_n 2, 1) := by decide +kernel
theorem dX11_highest_42 : decode cX11_highest 42 = .ok (.ireturn, 1) := by decide +kernel
set_option maxHeartbeats 4000000 in
set_option maxRecDepth 100000 in
theorem ctC_highest (μ : Mm) {r : Nat} {b : Int} (hr1 : r < PC.2.1) (hr2 : PC.1 r = .inl (.int, 6)) (hR : ∀ p, p < 6 → hasB b p = true → InR (μ.1 r p)) : CtI PC 0 yX11_highest cX11_highest 4 (some .int) [vR r, vI b] μ (best (fun p => hasB b p) (μ.1 r) 6) := by
  refine ct_intro [some (vR r), some (vI b), none, none] RX11 (by decide) rfl XCo rfl (Nat.le_of_ble_eq_true rfl) (fun K hO => ?_)
  have lp : ∀ (c : Nat) (i : Nat) (x : Int), (i + c = 6) → (x = best (fun p => hasB b p) (μ.1 r) i) → AW K 4 [some (vR r), some (vI b), some (vI x), some (vI ((i : Nat) : Int))] [] μ := by
    intro c
    induction c with
    | zero =>
      intro i x hi hx
      have hbr := best_rng (fun p => hasB b p) (μ.1 r) i
      rw [← hx] at hbr
      have hbo := best_ok (ok := (fun p => hasB b p)) (val := (μ.1 r)) i
      rw [← hx] at hbo
      refine aw_iload_n hO dX11_highest_4 rfl rfl ?_
      refine aw_aload_n hO dX11_highest_5 rfl rfl ?_
      refine aw_alen (N := 6) hO dX11_highest_6 rfl hr1 hr2 ?_
      refine aw_cg (show ((6 : Nat) : Int) = 6 from rfl) ?_
      refine aw_icmp_ge (tgt := 41) hO dX11_highest_7 rfl rfl (inRn (by omega)) (inRlit _) (fun c7 => ?_) (fun c7 => ?_)
      · refine aw_iload_n hO dX11_highest_41 rfl rfl ?_
        refine aw_iret hO dX11_highest_42 ?_
        exact rI (by rw [hx, show i = 6 by omega])
      · exact absurd c7 (by omega)
    | succ c ih =>
      intro i x hi hx
      have hbr := best_rng (fun p => hasB b p) (μ.1 r) i
      rw [← hx] at hbr
      have hbo := best_ok (ok := (fun p => hasB b p)) (val := (μ.1 r)) i
      rw [← hx] at hbo
      refine aw_iload_n hO dX11_highest_4 rfl rfl ?_
      refine aw_aload_n hO dX11_highest_5 rfl rfl ?_
      refine aw_alen (N := 6) hO dX11_highest_6 rfl hr1 hr2 ?_
      refine aw_cg (show ((6 : Nat) : Int) = 6 from rfl) ?_
      refine aw_icmp_ge (tgt := 41) hO dX11_highest_7 rfl rfl (inRn (by omega)) (inRlit _) (fun c7 => ?_) (fun c7 => ?_)
      · exact absurd c7 (by omega)
      · refine aw_iload_n hO dX11_highest_10 rfl rfl ?_
        refine aw_iload_n hO dX11_highest_11 rfl rfl ?_
        refine aw_ishr hO dX11_highest_12 rfl ?_
        refine aw_iconst hO dX11_highest_13 rfl ?_
        refine aw_iand hO dX11_highest_14 rfl ?_
        refine aw_iconst hO dX11_highest_15 rfl ?_
        refine aw_icmp_ne (tgt := 35) hO dX11_highest_16 rfl rfl (bAnd_R _ _) (inRlit _) (fun c16 => ?_) (fun c16 => ?_)
        · have c16b : ¬ hasB b i = true := fun e => c16 (of_decide_eq_true e)
          refine aw_iinc (ls' := [some (vR r), some (vI b), some (vI x), some (vI (((i : Nat) : Int) + 1))]) hO dX11_highest_35 rfl rfl rfl rfl ?_
          refine aw_lsq (ls' := [some (vR r), some (vI b), some (vI x), some (vI (((i + 1) : Nat) : Int))]) rfl ?_
          refine aw_goto (tgt := 4) hO dX11_highest_38 rfl ?_
          refine aw_lsq (ls' := [some (vR r), some (vI b), some (vI x), some (vI (((i + 1) : Nat) : Int))]) rfl ?_
          exact ih (i + 1) x (by omega) (by rw [best_succ, if_neg (fun q => c16b q.1)]; exact hx)
        · have c16b : hasB b i = true := decide_eq_true c16
          have q1 := hR i (by omega) c16b
          refine aw_iload_n hO dX11_highest_19 rfl rfl ?_
          refine aw_iconst hO dX11_highest_20 rfl ?_
          refine aw_icmp_eq (tgt := 33) hO dX11_highest_21 rfl rfl ⟨by omega, by omega⟩ (inRlit _) (fun c21 => ?_) (fun c21 => ?_)
          · refine aw_iload_n hO dX11_highest_33 rfl rfl ?_
            refine aw_istore_n (ls' := [some (vR r), some (vI b), some (vI ((i : Nat) : Int)), some (vI ((i : Nat) : Int))]) hO dX11_highest_34 rfl (Nat.le_of_ble_eq_true rfl) rfl rfl ?_
            refine aw_iinc (ls' := [some (vR r), some (vI b), some (vI ((i : Nat) : Int)), some (vI (((i : Nat) : Int) + 1))]) hO dX11_highest_35 rfl rfl rfl rfl ?_
            refine aw_lsq (ls' := [some (vR r), some (vI b), some (vI ((i : Nat) : Int)), some (vI (((i + 1) : Nat) : Int))]) rfl ?_
            refine aw_goto (tgt := 4) hO dX11_highest_38 rfl ?_
            refine aw_lsq (ls' := [some (vR r), some (vI b), some (vI ((i : Nat) : Int)), some (vI (((i + 1) : Nat) : Int))]) rfl ?_
            exact ih (i + 1) (i : Int) (by omega) (by rw [best_succ, if_pos ⟨c16b, Or.inl (by rw [← hx]; exact c21)⟩])
          · have q2 := hR x.toNat (by omega) (hbo.resolve_left c21)
            refine aw_aload_n hO dX11_highest_24 rfl rfl ?_
            refine aw_iload_n hO dX11_highest_25 rfl rfl ?_
            refine aw_ialdn (N := 6) (i := i) hO dX11_highest_26 rfl hr1 hr2 (by decide) rfl (by omega) ?_
            refine aw_aload_n hO dX11_highest_27 rfl rfl ?_
            refine aw_iload_n hO dX11_highest_28 rfl rfl ?_
            refine aw_ialdn (N := 6) (i := x.toNat) hO dX11_highest_29 rfl hr1 hr2 (by decide) (Int.toNat_of_nonneg (by omega)).symm (by omega) ?_
            refine aw_icmp_le (tgt := 35) hO dX11_highest_30 rfl rfl q1 q2 (fun c30 => ?_) (fun c30 => ?_)
            · refine aw_iinc (ls' := [some (vR r), some (vI b), some (vI x), some (vI (((i : Nat) : Int) + 1))]) hO dX11_highest_35 rfl rfl rfl rfl ?_
              refine aw_lsq (ls' := [some (vR r), some (vI b), some (vI x), some (vI (((i + 1) : Nat) : Int))]) rfl ?_
              refine aw_goto (tgt := 4) hO dX11_highest_38 rfl ?_
              refine aw_lsq (ls' := [some (vR r), some (vI b), some (vI x), some (vI (((i + 1) : Nat) : Int))]) rfl ?_
              exact ih (i + 1) x (by omega) (by rw [best_succ, if_neg (fun q => q.2.elim (fun q => c21 (by rw [hx]; exact q)) (fun q => by rw [← hx] at q; omega))]; exact hx)
            · refine aw_iload_n hO dX11_highest_33 rfl rfl ?_
              refine aw_istore_n (ls' := [some (vR r), some (vI b), some (vI ((i : Nat) : Int)), some (vI ((i : Nat) : Int))]) hO dX11_highest_34 rfl (Nat.le_of_ble_eq_true rfl) rfl rfl ?_
              refine aw_iinc (ls' := [some (vR r), some (vI b), some (vI ((i : Nat) : Int)), some (vI (((i : Nat) : Int) + 1))]) hO dX11_highest_35 rfl rfl rfl rfl ?_
              refine aw_lsq (ls' := [some (vR r), some (vI b), some (vI ((i : Nat) : Int)), some (vI (((i + 1) : Nat) : Int))]) rfl ?_
              refine aw_goto (tgt := 4) hO dX11_highest_38 rfl ?_
              refine aw_lsq (ls' := [some (vR r), some (vI b), some (vI ((i : Nat) : Int)), some (vI (((i + 1) : Nat) : Int))]) rfl ?_
              exact ih (i + 1) (i : Int) (by omega) (by rw [best_succ, if_pos ⟨c16b, Or.inr (by rw [← hx]; exact c30)⟩])
  refine aw_iconst hO dX11_highest_0 rfl ?_
  refine aw_istore_n (ls' := [some (vR r), some (vI b), some (vI (-1)), none]) hO dX11_highest_1 rfl (Nat.le_of_ble_eq_true rfl) rfl rfl ?_
  refine aw_iconst hO dX11_highest_2 rfl ?_
  refine aw_istore_n (ls' := [some (vR r), some (vI b), some (vI (-1)), some (vI 0)]) hO dX11_highest_3 rfl (Nat.le_of_ble_eq_true rfl) rfl rfl ?_
  refine aw_lsq (ls' := [some (vR r), some (vI b), some (vI (-1)), some (vI ((0 : Nat) : Int))]) rfl ?_
  exact lp 6 0 (-1) rfl rfl

/-- a stretch of a cell all one number -/
def mfl (μ : Mm) (k lo hi : Nat) (v : Int) : Mm := (fun k' j => if k' = k ∧ lo ≤ j ∧ j < hi then v else μ.1 k' j, μ.2)
theorem mfl_0 {μ : Mm} {k lo : Nat} {v : Int} : mfl μ k lo lo v = μ := by
  unfold mfl
  refine Prod.ext (funext fun k' => funext fun i => ?_) rfl
  dsimp only
  rw [if_neg (by omega)]
theorem mfl_s {μ : Mm} {k lo i : Nat} {v : Int} (h : lo ≤ i) : mst (mfl μ k lo i v) k i v = mfl μ k lo (i + 1) v := by
  unfold mfl mst
  refine Prod.ext (funext fun k' => funext fun j => ?_) rfl
  dsimp only
  by_cases e : k' = k ∧ j = i
  · rw [if_pos e, if_pos (by omega)]
  · rw [if_neg e]
    by_cases e2 : k' = k ∧ lo ≤ j ∧ j < i
    · rw [if_pos e2, if_pos (by omega)]
    · rw [if_neg e2, if_neg (by omega)]
theorem mfl_nk {μ : Mm} {k lo hi k' j : Nat} {v : Int} (h : k' ≠ k) : (mfl μ k lo hi v).1 k' j = μ.1 k' j := by unfold mfl; dsimp only; rw [if_neg (fun z => h z.1)]
theorem mfl_in {μ : Mm} {k lo hi j : Nat} {v : Int} (h1 : lo ≤ j) (h2 : j < hi) : (mfl μ k lo hi v).1 k j = v := by unfold mfl; dsimp only; rw [if_pos ⟨rfl, h1, h2⟩]
theorem mfl_out {μ : Mm} {k lo hi j : Nat} {v : Int} (h : j < lo ∨ hi ≤ j) : (mfl μ k lo hi v).1 k j = μ.1 k j := by unfold mfl; dsimp only; rw [if_neg (by omega)]
theorem dJ7_fill_53178_0 : decode cJ7_fill_53178 0 = .ok (.iconst 0, 1) := by decide +kernel
theorem dJ7_fill_53178_1 : decode cJ7_fill_53178 1 = .ok (.istore_n 2, 1) := by decide +kernel
theorem dJ7_fill_53178_2 : decode cJ7_fill_53178 2 = .ok (.aload_n 0, 1) := by decide +kernel
theorem dJ7_fill_53178_3 : decode cJ7_fill_53178 3 = .ok (.arraylength, 1) := by decide +kernel
theorem dJ7_fill_53178_4 : decode cJ7_fill_53178 4 = .ok (.istore_n 3, 1) := by decide +kernel
theorem dJ7_fill_53178_5 : decode cJ7_fill_53178 5 = .ok (.iload_n 2, 1) := by decide +kernel
theorem dJ7_fill_53178_6 : decode cJ7_fill_53178 6 = .ok (.iload_n 3, 1) := by decide +kernel
theorem dJ7_fill_53178_7 : decode cJ7_fill_53178 7 = .ok (.if_icmp .ge 13, 3) := by decide +kernel
theorem dJ7_fill_53178_10 : decode cJ7_fill_53178 10 = .ok (.aload_n 0, 1) := by decide +kernel
theorem dJ7_fill_53178_11 : decode cJ7_fill_53178 11 = .ok (.iload_n 2, 1) := by decide +kernel
theorem dJ7_fill_53178_12 : decode cJ7_fill_53178 12 = .ok (.iload_n 1, 1) := by decide +kernel
theorem dJ7_fill_53178_13 : decode cJ7_fill_53178 13 = .ok (.iastore, 1) := by decide +kernel
theorem dJ7_fill_53178_14 : decode cJ7_fill_53178 14 = .ok (.iinc 2 1, 3) := by decide +kernel
theorem dJ7_fill_53178_17 : decode cJ7_fill_53178 17 = .ok (.goto (-12), 3) := by decide +kernel
theorem dJ7_fill_53178_20 : decode cJ7_fill_53178 20 = .ok (.return_, 1) := by decide +kernel
set_option maxHeartbeats 4000000 in
set_option maxRecDepth 100000 in
theorem ctC_fill (μ : Mm) {r N : Nat} {v : Int} (hr1 : r < PC.2.1) (hr2 : PC.1 r = .inl (.int, N)) (hN0 : N < 2147483648) : CtV PC 0 yJ7_fill_53178 cJ7_fill_53178 4 none [vR r, vI v] μ (fun m => m = mfl μ r 0 N v) := by
  refine ct_intro [some (vR r), some (vI v), none, none] RJ7 (by decide) rfl XCo rfl (Nat.le_of_ble_eq_true rfl) (fun K hO => ?_)
  have hN := hN0
  have lp : ∀ (c : Nat) (i : Nat) (m : Mm), (i + c = N) → (m = mfl μ r 0 i v) → AW K 5 [some (vR r), some (vI v), some (vI ((i : Nat) : Int)), some (vI ((N : Nat) : Int))] [] m := by
    intro c
    induction c with
    | zero =>
      intro i m hi hm
      refine aw_iload_n hO dJ7_fill_53178_5 rfl rfl ?_
      refine aw_iload_n hO dJ7_fill_53178_6 rfl rfl ?_
      refine aw_icmp_ge (tgt := 20) hO dJ7_fill_53178_7 rfl rfl (inRn (by omega)) (inRn (by omega)) (fun c7 => ?_) (fun c7 => ?_)
      · refine aw_vret hO dJ7_fill_53178_20 ?_
        exact ⟨rfl, by rw [hm, show i = N by omega]⟩
      · exact absurd c7 (by omega)
    | succ c ih =>
      intro i m hi hm
      refine aw_iload_n hO dJ7_fill_53178_5 rfl rfl ?_
      refine aw_iload_n hO dJ7_fill_53178_6 rfl rfl ?_
      refine aw_icmp_ge (tgt := 20) hO dJ7_fill_53178_7 rfl rfl (inRn (by omega)) (inRn (by omega)) (fun c7 => ?_) (fun c7 => ?_)
      · exact absurd c7 (by omega)
      · refine aw_aload_n hO dJ7_fill_53178_10 rfl rfl ?_
        refine aw_iload_n hO dJ7_fill_53178_11 rfl rfl ?_
        refine aw_iload_n hO dJ7_fill_53178_12 rfl rfl ?_
        refine aw_iastn (N := N) (i := i) hO dJ7_fill_53178_13 rfl hr1 hr2 hN0 rfl (by omega) ?_
        refine aw_mm (fun μ1 e_μ1 => ?_)
        refine aw_iinc (ls' := [some (vR r), some (vI v), some (vI (((i : Nat) : Int) + 1)), some (vI ((N : Nat) : Int))]) hO dJ7_fill_53178_14 rfl rfl rfl rfl ?_
        refine aw_lsq (ls' := [some (vR r), some (vI v), some (vI (((i + 1) : Nat) : Int)), some (vI ((N : Nat) : Int))]) rfl ?_
        refine aw_goto (tgt := 5) hO dJ7_fill_53178_17 rfl ?_
        refine aw_lsq (ls' := [some (vR r), some (vI v), some (vI (((i + 1) : Nat) : Int)), some (vI ((N : Nat) : Int))]) rfl ?_
        exact ih (i + 1) μ1 (by omega) (by rw [e_μ1, hm, mfl_s (by omega)])
  refine aw_iconst hO dJ7_fill_53178_0 rfl ?_
  refine aw_istore_n (ls' := [some (vR r), some (vI v), some (vI 0), none]) hO dJ7_fill_53178_1 rfl (Nat.le_of_ble_eq_true rfl) rfl rfl ?_
  refine aw_aload_n hO dJ7_fill_53178_2 rfl rfl ?_
  refine aw_alen (N := N) hO dJ7_fill_53178_3 rfl hr1 hr2 ?_
  skip
  refine aw_istore_n (ls' := [some (vR r), some (vI v), some (vI 0), some (vI N)]) hO dJ7_fill_53178_4 rfl (Nat.le_of_ble_eq_true rfl) rfl rfl ?_
  refine aw_lsq (ls' := [some (vR r), some (vI v), some (vI ((0 : Nat) : Int)), some (vI ((N : Nat) : Int))]) rfl ?_
  exact lp N 0 μ (by omega) mfl_0.symm
theorem dJ7_rangeCheck_23922_0 : decode cJ7_rangeCheck_23922 0 = .ok (.iload_n 1, 1) := by decide +kernel
theorem dJ7_rangeCheck_23922_1 : decode cJ7_rangeCheck_23922 1 = .ok (.iload_n 2, 1) := by decide +kernel
theorem dJ7_rangeCheck_23922_2 : decode cJ7_rangeCheck_23922 2 = .ok (.if_icmp .le 44, 3) := by decide +kernel
theorem dJ7_rangeCheck_23922_46 : decode cJ7_rangeCheck_23922 46 = .ok (.iload_n 1, 1) := by decide +kernel
theorem dJ7_rangeCheck_23922_47 : decode cJ7_rangeCheck_23922 47 = .ok (.ifCond .ge 12, 3) := by decide +kernel
theorem dJ7_rangeCheck_23922_59 : decode cJ7_rangeCheck_23922 59 = .ok (.iload_n 2, 1) := by decide +kernel
theorem dJ7_rangeCheck_23922_60 : decode cJ7_rangeCheck_23922 60 = .ok (.iload_n 0, 1) := by decide +kernel
theorem dJ7_rangeCheck_23922_61 : decode cJ7_rangeCheck_23922 61 = .ok (.if_icmp .le 12, 3) := by decide +kernel
theorem dJ7_rangeCheck_23922_73 : decode cJ7_rangeCheck_23922 73 = .ok (.return_, 1) := by decide +kernel
set_option maxHeartbeats 4000000 in
set_option maxRecDepth 100000 in
theorem ctC_rangeCheck (μ : Mm) {n a b : Int} (ha : 0 ≤ a) (hab : a ≤ b) (hbn : b ≤ n) (hn : n ≤ 2000000) : CtV PC 0 yJ7_rangeCheck_23922 cJ7_rangeCheck_23922 3 none [vI n, vI a, vI b] μ (fun m => m = μ) := by
  refine ct_intro [some (vI n), some (vI a), some (vI b)] RJ7 (by decide) rfl XCo rfl (Nat.le_of_ble_eq_true rfl) (fun K hO => ?_)
  refine aw_iload_n hO dJ7_rangeCheck_23922_0 rfl rfl ?_
  refine aw_iload_n hO dJ7_rangeCheck_23922_1 rfl rfl ?_
  refine aw_icmp_le (tgt := 46) hO dJ7_rangeCheck_23922_2 rfl rfl ⟨by omega, by omega⟩ ⟨by omega, by omega⟩ (fun c2 => ?_) (fun c2 => ?_)
  · refine aw_iload_n hO dJ7_rangeCheck_23922_46 rfl rfl ?_
    refine aw_if_ge (tgt := 59) hO dJ7_rangeCheck_23922_47 rfl rfl ⟨by omega, by omega⟩ (fun c47 => ?_) (fun c47 => ?_)
    · refine aw_iload_n hO dJ7_rangeCheck_23922_59 rfl rfl ?_
      refine aw_iload_n hO dJ7_rangeCheck_23922_60 rfl rfl ?_
      refine aw_icmp_le (tgt := 73) hO dJ7_rangeCheck_23922_61 rfl rfl ⟨by omega, by omega⟩ ⟨by omega, by omega⟩ (fun c61 => ?_) (fun c61 => ?_)
      · refine aw_vret hO dJ7_rangeCheck_23922_73 ?_
        exact ⟨rfl, rfl⟩
      · exact absurd c61 (by omega)
    · exact absurd c47 (by omega)
  · exact absurd c2 (by omega)
theorem dJ7_fill_fda19_0 : decode cJ7_fill_fda19 0 = .ok (.aload_n 0, 1) := by decide +kernel
theorem dJ7_fill_fda19_1 : decode cJ7_fill_fda19 1 = .ok (.arraylength, 1) := by decide +kernel
theorem dJ7_fill_fda19_2 : decode cJ7_fill_fda19 2 = .ok (.iload_n 1, 1) := by decide +kernel
theorem dJ7_fill_fda19_3 : decode cJ7_fill_fda19 3 = .ok (.iload_n 2, 1) := by decide +kernel
theorem dJ7_fill_fda19_4 : decode cJ7_fill_fda19 4 = .ok (.invokestatic 13, 3) := by decide +kernel
theorem dJ7_fill_fda19_7 : decode cJ7_fill_fda19 7 = .ok (.iload_n 1, 1) := by decide +kernel
theorem dJ7_fill_fda19_8 : decode cJ7_fill_fda19 8 = .ok (.istore 4, 2) := by decide +kernel
theorem dJ7_fill_fda19_10 : decode cJ7_fill_fda19 10 = .ok (.iload 4, 2) := by decide +kernel
theorem dJ7_fill_fda19_12 : decode cJ7_fill_fda19 12 = .ok (.iload_n 2, 1) := by decide +kernel
theorem dJ7_fill_fda19_13 : decode cJ7_fill_fda19 13 = .ok (.if_icmp .ge 14, 3) := by decide +kernel
theorem dJ7_fill_fda19_16 : decode cJ7_fill_fda19 16 = .ok (.aload_n 0, 1) := by decide +kernel
theorem dJ7_fill_fda19_17 : decode cJ7_fill_fda19 17 = .ok (.iload 4, 2) := by decide +kernel
theorem dJ7_fill_fda19_19 : decode cJ7_fill_fda19 19 = .ok (.iload_n 3, 1) := by decide +kernel
theorem dJ7_fill_fda19_20 : decode cJ7_fill_fda19 20 = .ok (.iastore, 1) := by decide +kernel
theorem dJ7_fill_fda19_21 : decode cJ7_fill_fda19 21 = .ok (.iinc 4 1, 3) := by decide +kernel
theorem dJ7_fill_fda19_24 : decode cJ7_fill_fda19 24 = .ok (.goto (-14), 3) := by decide +kernel
theorem dJ7_fill_fda19_27 : decode cJ7_fill_fda19 27 = .ok (.return_, 1) := by decide +kernel
set_option maxHeartbeats 4000000 in
set_option maxRecDepth 100000 in
theorem ctC_fillR (μ : Mm) {r N a b : Nat} {v : Int} (hr1 : r < PC.2.1) (hr2 : PC.1 r = .inl (.int, N)) (hab : a ≤ b) (hbN : b ≤ N) (hN0 : N ≤ 2000000) : CtV PC 1 yJ7_fill_fda19 cJ7_fill_fda19 5 none [vR r, vI ((a : Nat) : Int), vI ((b : Nat) : Int), vI v] μ (fun m => m = mfl μ r a b v) := by
  refine ct_intro [some (vR r), some (vI ((a : Nat) : Int)), some (vI ((b : Nat) : Int)), some (vI v), none] RJ7 (by decide) rfl XCo rfl (Nat.le_of_ble_eq_true rfl) (fun K hO => ?_)
  have hN := hN0
  have lp : ∀ (c : Nat) (i : Nat) (m : Mm), (i + c = b) → (a ≤ i) → (m = mfl μ r a i v) → AW K 10 [some (vR r), some (vI ((a : Nat) : Int)), some (vI ((b : Nat) : Int)), some (vI v), some (vI ((i : Nat) : Int))] [] m := by
    intro c
    induction c with
    | zero =>
      intro i m hi hia hm
      refine aw_iload hO dJ7_fill_fda19_10 rfl rfl ?_
      refine aw_iload_n hO dJ7_fill_fda19_12 rfl rfl ?_
      refine aw_icmp_ge (tgt := 27) hO dJ7_fill_fda19_13 rfl rfl (inRn (by omega)) (inRn (by omega)) (fun c13 => ?_) (fun c13 => ?_)
      · refine aw_vret hO dJ7_fill_fda19_27 ?_
        exact ⟨rfl, by rw [hm, show i = b by omega]⟩
      · exact absurd c13 (by omega)
    | succ c ih =>
      intro i m hi hia hm
      refine aw_iload hO dJ7_fill_fda19_10 rfl rfl ?_
      refine aw_iload_n hO dJ7_fill_fda19_12 rfl rfl ?_
      refine aw_icmp_ge (tgt := 27) hO dJ7_fill_fda19_13 rfl rfl (inRn (by omega)) (inRn (by omega)) (fun c13 => ?_) (fun c13 => ?_)
      · exact absurd c13 (by omega)
      · refine aw_aload_n hO dJ7_fill_fda19_16 rfl rfl ?_
        refine aw_iload hO dJ7_fill_fda19_17 rfl rfl ?_
        refine aw_iload_n hO dJ7_fill_fda19_19 rfl rfl ?_
        refine aw_iastn (N := N) (i := i) hO dJ7_fill_fda19_20 rfl hr1 hr2 (by omega) rfl (by omega) ?_
        refine aw_mm (fun μ1 e_μ1 => ?_)
        refine aw_iinc (ls' := [some (vR r), some (vI ((a : Nat) : Int)), some (vI ((b : Nat) : Int)), some (vI v), some (vI (((i : Nat) : Int) + 1))]) hO dJ7_fill_fda19_21 rfl rfl rfl rfl ?_
        refine aw_lsq (ls' := [some (vR r), some (vI ((a : Nat) : Int)), some (vI ((b : Nat) : Int)), some (vI v), some (vI (((i + 1) : Nat) : Int))]) rfl ?_
        refine aw_goto (tgt := 10) hO dJ7_fill_fda19_24 rfl ?_
        refine aw_lsq (ls' := [some (vR r), some (vI ((a : Nat) : Int)), some (vI ((b : Nat) : Int)), some (vI v), some (vI (((i + 1) : Nat) : Int))]) rfl ?_
        exact ih (i + 1) μ1 (by omega) (by omega) (by rw [e_μ1, hm, mfl_s (by omega)])
  refine aw_aload_n hO dJ7_fill_fda19_0 rfl rfl ?_
  refine aw_alen (N := N) hO dJ7_fill_fda19_1 rfl hr1 hr2 ?_
  skip
  refine aw_iload_n hO dJ7_fill_fda19_2 rfl rfl ?_
  refine aw_iload_n hO dJ7_fill_fda19_3 rfl rfl ?_
  refine aw_callSV (as := [vI N, vI ((a : Nat) : Int), vI ((b : Nat) : Int)]) (st := []) hO dJ7_fill_fda19_4 rfl (lw_t4 77 rfl rfl) kJ7_rangeCheck_23922 (ctC_rangeCheck μ (by omega) (by omega) (by omega) (by omega)) (by decide) rfl rfl rfl (Nat.le_of_ble_eq_true rfl) (fun μ3 hq4 => ?_)
  refine aw_meq hq4 ?_
  refine aw_iload_n hO dJ7_fill_fda19_7 rfl rfl ?_
  refine aw_istore (ls' := [some (vR r), some (vI ((a : Nat) : Int)), some (vI ((b : Nat) : Int)), some (vI v), some (vI ((a : Nat) : Int))]) hO dJ7_fill_fda19_8 rfl (Nat.le_of_ble_eq_true rfl) rfl rfl ?_
  exact lp (b - a) a μ (by omega) (by omega) mfl_0.symm
theorem dX7_isAway_0 : decode cX7_isAway 0 = .ok (.aload_n 0, 1) := by decide +kernel
theorem dX7_isAway_1 : decode cX7_isAway 1 = .ok (.getfield 11, 3) := by decide +kernel
theorem dX7_isAway_4 : decode cX7_isAway 4 = .ok (.bipush 7, 2) := by decide +kernel
theorem dX7_isAway_6 : decode cX7_isAway 6 = .ok (.iaload, 1) := by decide +kernel
theorem dX7_isAway_7 : decode cX7_isAway 7 = .ok (.iload_n 1, 1) := by decide +kernel
theorem dX7_isAway_8 : decode cX7_isAway 8 = .ok (.ishr, 1) := by decide +kernel
theorem dX7_isAway_9 : decode cX7_isAway 9 = .ok (.iconst 1, 1) := by decide +kernel
theorem dX7_isAway_10 : decode cX7_isAway 10 = .ok (.iand, 1) := by decide +kernel
theorem dX7_isAway_11 : decode cX7_isAway 11 = .ok (.iconst 1, 1) := by decide +kernel
theorem dX7_isAway_12 : decode cX7_isAway 12 = .ok (.if_icmp .ne 7, 3) := by decide +kernel
theorem dX7_isAway_15 : decode cX7_isAway 15 = .ok (.iconst 1, 1) := by decide +kernel
theorem dX7_isAway_16 : decode cX7_isAway 16 = .ok (.goto 4, 3) := by decide +kernel
theorem dX7_isAway_19 : decode cX7_isAway 19 = .ok (.iconst 0, 1) := by decide +kernel
theorem dX7_isAway_20 : decode cX7_isAway 20 = .ok (.ireturn, 1) := by decide +kernel
set_option maxHeartbeats 4000000 in
set_option maxRecDepth 100000 in
theorem ctC_7_isAway (μ : Mm) {s : Nat} (hs : Sob s) (p : Nat) : CtI PC 0 yX7_isAway cX7_isAway 2 (some .boolean) [vR s, vI ((p : Nat) : Int)] μ (if hasB (μ.1 (s + 1) 7) p = true then 1 else 0) := by
  refine ct_intro [some (vR s), some (vI ((p : Nat) : Int))] RX7 (by decide) rfl XCo rfl (Nat.le_of_ble_eq_true rfl) (fun K hO => ?_)
  refine aw_aload_n hO dX7_isAway_0 rfl rfl ?_
  refine aw_get (f := 0) hO dX7_isAway_1 rfl okX7 (by decide) (lw_t1 149 rfl rfl) hs.1 hs.2.1 rfl rfl ?_
  refine aw_bipush hO dX7_isAway_4 rfl (by decide) (by decide) ?_
  refine aw_ialdn (N := 98) (i := 7) hO dX7_isAway_6 rfl hs.2.2.1 hs.2.2.2 (by decide) rfl (by decide) ?_
  refine aw_iload_n hO dX7_isAway_7 rfl rfl ?_
  refine aw_ishr hO dX7_isAway_8 rfl ?_
  refine aw_iconst hO dX7_isAway_9 rfl ?_
  refine aw_iand hO dX7_isAway_10 rfl ?_
  refine aw_iconst hO dX7_isAway_11 rfl ?_
  refine aw_icmp_ne (tgt := 19) hO dX7_isAway_12 rfl rfl (bAnd_R _ _) (inRlit _) (fun c12 => ?_) (fun c12 => ?_)
  · refine aw_iconst hO dX7_isAway_19 rfl ?_
    refine aw_zret hO dX7_isAway_20 (Or.inl rfl) ?_
    exact rI (by rw [if_neg (show ¬ hasB _ _ = true from fun e => c12 (of_decide_eq_true e))])
  · refine aw_iconst hO dX7_isAway_15 rfl ?_
    refine aw_goto (tgt := 20) hO dX7_isAway_16 rfl ?_
    refine aw_zret hO dX7_isAway_20 (Or.inr rfl) ?_
    exact rI (by rw [if_pos (show hasB _ _ = true from decide_eq_true c12)])
theorem dX7_meetings_0 : decode cX7_meetings 0 = .ok (.aload_n 0, 1) := by decide +kernel
theorem dX7_meetings_1 : decode cX7_meetings 1 = .ok (.getfield 11, 3) := by decide +kernel
theorem dX7_meetings_4 : decode cX7_meetings 4 = .ok (.bipush 9, 2) := by decide +kernel
theorem dX7_meetings_6 : decode cX7_meetings 6 = .ok (.iload_n 1, 1) := by decide +kernel
theorem dX7_meetings_7 : decode cX7_meetings 7 = .ok (.iadd, 1) := by decide +kernel
theorem dX7_meetings_8 : decode cX7_meetings 8 = .ok (.iaload, 1) := by decide +kernel
theorem dX7_meetings_9 : decode cX7_meetings 9 = .ok (.ireturn, 1) := by decide +kernel
set_option maxHeartbeats 4000000 in
set_option maxRecDepth 100000 in
theorem ctC_7_meetings (μ : Mm) {s : Nat} (hs : Sob s) {p : Nat} (hp : p < 6) : CtI PC 0 yX7_meetings cX7_meetings 2 (some .int) [vR s, vI ((p : Nat) : Int)] μ (μ.1 (s + 1) (9 + p)) := by
  refine ct_intro [some (vR s), some (vI ((p : Nat) : Int))] RX7 (by decide) rfl XCo rfl (Nat.le_of_ble_eq_true rfl) (fun K hO => ?_)
  refine aw_aload_n hO dX7_meetings_0 rfl rfl ?_
  refine aw_get (f := 0) hO dX7_meetings_1 rfl okX7 (by decide) (lw_t1 149 rfl rfl) hs.1 hs.2.1 rfl rfl ?_
  refine aw_bipush hO dX7_meetings_4 rfl (by decide) (by decide) ?_
  refine aw_iload_n hO dX7_meetings_6 rfl rfl ?_
  refine aw_iadd hO dX7_meetings_7 rfl ?_
  refine aw_ialdn (N := 98) (i := (9 + p)) hO dX7_meetings_8 rfl hs.2.2.1 hs.2.2.2 (by decide) (by omega) (by omega) ?_
  refine aw_iret hO dX7_meetings_9 ?_
  exact rI rfl
theorem dX7_chains_0 : decode cX7_chains 0 = .ok (.aload_n 0, 1) := by decide +kernel
theorem dX7_chains_1 : decode cX7_chains 1 = .ok (.getfield 11, 3) := by decide +kernel
theorem dX7_chains_4 : decode cX7_chains 4 = .ok (.bipush 27, 2) := by decide +kernel
theorem dX7_chains_6 : decode cX7_chains 6 = .ok (.iload_n 1, 1) := by decide +kernel
theorem dX7_chains_7 : decode cX7_chains 7 = .ok (.iadd, 1) := by decide +kernel
theorem dX7_chains_8 : decode cX7_chains 8 = .ok (.iaload, 1) := by decide +kernel
theorem dX7_chains_9 : decode cX7_chains 9 = .ok (.ireturn, 1) := by decide +kernel
set_option maxHeartbeats 4000000 in
set_option maxRecDepth 100000 in
theorem ctC_7_chains (μ : Mm) {s : Nat} (hs : Sob s) {p : Nat} (hp : p < 6) : CtI PC 0 yX7_chains cX7_chains 2 (some .int) [vR s, vI ((p : Nat) : Int)] μ (μ.1 (s + 1) (27 + p)) := by
  refine ct_intro [some (vR s), some (vI ((p : Nat) : Int))] RX7 (by decide) rfl XCo rfl (Nat.le_of_ble_eq_true rfl) (fun K hO => ?_)
  refine aw_aload_n hO dX7_chains_0 rfl rfl ?_
  refine aw_get (f := 0) hO dX7_chains_1 rfl okX7 (by decide) (lw_t1 149 rfl rfl) hs.1 hs.2.1 rfl rfl ?_
  refine aw_bipush hO dX7_chains_4 rfl (by decide) (by decide) ?_
  refine aw_iload_n hO dX7_chains_6 rfl rfl ?_
  refine aw_iadd hO dX7_chains_7 rfl ?_
  refine aw_ialdn (N := 98) (i := (27 + p)) hO dX7_chains_8 rfl hs.2.2.1 hs.2.2.2 (by decide) (by omega) (by omega) ?_
  refine aw_iret hO dX7_chains_9 ?_
  exact rI rfl
theorem dX7_asks_0 : decode cX7_asks 0 = .ok (.aload_n 0, 1) := by decide +kernel
theorem dX7_asks_1 : decode cX7_asks 1 = .ok (.getfield 11, 3) := by decide +kernel
theorem dX7_asks_4 : decode cX7_asks 4 = .ok (.bipush 33, 2) := by decide +kernel
theorem dX7_asks_6 : decode cX7_asks 6 = .ok (.iload_n 1, 1) := by decide +kernel
theorem dX7_asks_7 : decode cX7_asks 7 = .ok (.iadd, 1) := by decide +kernel
theorem dX7_asks_8 : decode cX7_asks 8 = .ok (.iaload, 1) := by decide +kernel
theorem dX7_asks_9 : decode cX7_asks 9 = .ok (.ireturn, 1) := by decide +kernel
set_option maxHeartbeats 4000000 in
set_option maxRecDepth 100000 in
theorem ctC_7_asks (μ : Mm) {s : Nat} (hs : Sob s) {p : Nat} (hp : p < 5) : CtI PC 0 yX7_asks cX7_asks 2 (some .int) [vR s, vI ((p : Nat) : Int)] μ (μ.1 (s + 1) (33 + p)) := by
  refine ct_intro [some (vR s), some (vI ((p : Nat) : Int))] RX7 (by decide) rfl XCo rfl (Nat.le_of_ble_eq_true rfl) (fun K hO => ?_)
  refine aw_aload_n hO dX7_asks_0 rfl rfl ?_
  refine aw_get (f := 0) hO dX7_asks_1 rfl okX7 (by decide) (lw_t1 149 rfl rfl) hs.1 hs.2.1 rfl rfl ?_
  refine aw_bipush hO dX7_asks_4 rfl (by decide) (by decide) ?_
  refine aw_iload_n hO dX7_asks_6 rfl rfl ?_
  refine aw_iadd hO dX7_asks_7 rfl ?_
  refine aw_ialdn (N := 98) (i := (33 + p)) hO dX7_asks_8 rfl hs.2.2.1 hs.2.2.2 (by decide) (by omega) (by omega) ?_
  refine aw_iret hO dX7_asks_9 ?_
  exact rI rfl
theorem dX7_feigned_0 : decode cX7_feigned 0 = .ok (.aload_n 0, 1) := by decide +kernel
theorem dX7_feigned_1 : decode cX7_feigned 1 = .ok (.getfield 11, 3) := by decide +kernel
theorem dX7_feigned_4 : decode cX7_feigned 4 = .ok (.bipush 15, 2) := by decide +kernel
theorem dX7_feigned_6 : decode cX7_feigned 6 = .ok (.iload_n 2, 1) := by decide +kernel
theorem dX7_feigned_7 : decode cX7_feigned 7 = .ok (.bipush 6, 2) := by decide +kernel
theorem dX7_feigned_9 : decode cX7_feigned 9 = .ok (.imul, 1) := by decide +kernel
theorem dX7_feigned_10 : decode cX7_feigned 10 = .ok (.iadd, 1) := by decide +kernel
theorem dX7_feigned_11 : decode cX7_feigned 11 = .ok (.iload_n 1, 1) := by decide +kernel
theorem dX7_feigned_12 : decode cX7_feigned 12 = .ok (.iadd, 1) := by decide +kernel
theorem dX7_feigned_13 : decode cX7_feigned 13 = .ok (.iaload, 1) := by decide +kernel
theorem dX7_feigned_14 : decode cX7_feigned 14 = .ok (.ireturn, 1) := by decide +kernel
set_option maxHeartbeats 4000000 in
set_option maxRecDepth 100000 in
theorem ctC_7_feigned (μ : Mm) {s : Nat} (hs : Sob s) {p t : Nat} (hp : p < 6) (ht : t < 2) : CtI PC 0 yX7_feigned cX7_feigned 3 (some .int) [vR s, vI ((p : Nat) : Int), vI ((t : Nat) : Int)] μ (μ.1 (s + 1) (15 + 6 * t + p)) := by
  refine ct_intro [some (vR s), some (vI ((p : Nat) : Int)), some (vI ((t : Nat) : Int))] RX7 (by decide) rfl XCo rfl (Nat.le_of_ble_eq_true rfl) (fun K hO => ?_)
  refine aw_aload_n hO dX7_feigned_0 rfl rfl ?_
  refine aw_get (f := 0) hO dX7_feigned_1 rfl okX7 (by decide) (lw_t1 149 rfl rfl) hs.1 hs.2.1 rfl rfl ?_
  refine aw_bipush hO dX7_feigned_4 rfl (by decide) (by decide) ?_
  refine aw_iload_n hO dX7_feigned_6 rfl rfl ?_
  refine aw_bipush hO dX7_feigned_7 rfl (by decide) (by decide) ?_
  refine aw_imul hO dX7_feigned_9 rfl ?_
  refine aw_iadd hO dX7_feigned_10 rfl ?_
  refine aw_iload_n hO dX7_feigned_11 rfl rfl ?_
  refine aw_iadd hO dX7_feigned_12 rfl ?_
  refine aw_ialdn (N := 98) (i := (15 + 6 * t + p)) hO dX7_feigned_13 rfl hs.2.2.1 hs.2.2.2 (by decide) (by omega) (by omega) ?_
  refine aw_iret hO dX7_feigned_14 ?_
  exact rI rfl
theorem dX7_setMeetings_0 : decode cX7_setMeetings 0 = .ok (.aload_n 0, 1) := by decide +kernel
theorem dX7_setMeetings_1 : decode cX7_setMeetings 1 = .ok (.getfield 11, 3) := by decide +kernel
theorem dX7_setMeetings_4 : decode cX7_setMeetings 4 = .ok (.bipush 9, 2) := by decide +kernel
theorem dX7_setMeetings_6 : decode cX7_setMeetings 6 = .ok (.iload_n 1, 1) := by decide +kernel
theorem dX7_setMeetings_7 : decode cX7_setMeetings 7 = .ok (.iadd, 1) := by decide +kernel
theorem dX7_setMeetings_8 : decode cX7_setMeetings 8 = .ok (.iload_n 2, 1) := by decide +kernel
theorem dX7_setMeetings_9 : decode cX7_setMeetings 9 = .ok (.iastore, 1) := by decide +kernel
theorem dX7_setMeetings_10 : decode cX7_setMeetings 10 = .ok (.return_, 1) := by decide +kernel
set_option maxHeartbeats 4000000 in
set_option maxRecDepth 100000 in
theorem ctC_7_setMeetings (μ : Mm) {s : Nat} (hs : Sob s) {p : Nat} {v : Int} (hp : p < 6) : CtV PC 0 yX7_setMeetings cX7_setMeetings 3 none [vR s, vI ((p : Nat) : Int), vI v] μ (fun m => m = mst μ (s + 1) (9 + p) v) := by
  refine ct_intro [some (vR s), some (vI ((p : Nat) : Int)), some (vI v)] RX7 (by decide) rfl XCo rfl (Nat.le_of_ble_eq_true rfl) (fun K hO => ?_)
  refine aw_aload_n hO dX7_setMeetings_0 rfl rfl ?_
  refine aw_get (f := 0) hO dX7_setMeetings_1 rfl okX7 (by decide) (lw_t1 149 rfl rfl) hs.1 hs.2.1 rfl rfl ?_
  refine aw_bipush hO dX7_setMeetings_4 rfl (by decide) (by decide) ?_
  refine aw_iload_n hO dX7_setMeetings_6 rfl rfl ?_
  refine aw_iadd hO dX7_setMeetings_7 rfl ?_
  refine aw_iload_n hO dX7_setMeetings_8 rfl rfl ?_
  refine aw_iastn (N := 98) (i := (9 + p)) hO dX7_setMeetings_9 rfl hs.2.2.1 hs.2.2.2 (by decide) (by omega) (by omega) ?_
  refine aw_mm (fun μ1 e_μ1 => ?_)
  refine aw_vret hO dX7_setMeetings_10 ?_
  exact ⟨rfl, e_μ1⟩
theorem dX7_setAsks_0 : decode cX7_setAsks 0 = .ok (.aload_n 0, 1) := by decide +kernel
theorem dX7_setAsks_1 : decode cX7_setAsks 1 = .ok (.getfield 11, 3) := by decide +kernel
theorem dX7_setAsks_4 : decode cX7_setAsks 4 = .ok (.bipush 33, 2) := by decide +kernel
theorem dX7_setAsks_6 : decode cX7_setAsks 6 = .ok (.iload_n 1, 1) := by decide +kernel
theorem dX7_setAsks_7 : decode cX7_setAsks 7 = .ok (.iadd, 1) := by decide +kernel
theorem dX7_setAsks_8 : decode cX7_setAsks 8 = .ok (.iload_n 2, 1) := by decide +kernel
theorem dX7_setAsks_9 : decode cX7_setAsks 9 = .ok (.iastore, 1) := by decide +kernel
theorem dX7_setAsks_10 : decode cX7_setAsks 10 = .ok (.return_, 1) := by decide +kernel
set_option maxHeartbeats 4000000 in
set_option maxRecDepth 100000 in
theorem ctC_7_setAsks (μ : Mm) {s : Nat} (hs : Sob s) {p : Nat} {v : Int} (hp : p < 5) : CtV PC 0 yX7_setAsks cX7_setAsks 3 none [vR s, vI ((p : Nat) : Int), vI v] μ (fun m => m = mst μ (s + 1) (33 + p) v) := by
  refine ct_intro [some (vR s), some (vI ((p : Nat) : Int)), some (vI v)] RX7 (by decide) rfl XCo rfl (Nat.le_of_ble_eq_true rfl) (fun K hO => ?_)
  refine aw_aload_n hO dX7_setAsks_0 rfl rfl ?_
  refine aw_get (f := 0) hO dX7_setAsks_1 rfl okX7 (by decide) (lw_t1 149 rfl rfl) hs.1 hs.2.1 rfl rfl ?_
  refine aw_bipush hO dX7_setAsks_4 rfl (by decide) (by decide) ?_
  refine aw_iload_n hO dX7_setAsks_6 rfl rfl ?_
  refine aw_iadd hO dX7_setAsks_7 rfl ?_
  refine aw_iload_n hO dX7_setAsks_8 rfl rfl ?_
  refine aw_iastn (N := 98) (i := (33 + p)) hO dX7_setAsks_9 rfl hs.2.2.1 hs.2.2.2 (by decide) (by omega) (by omega) ?_
  refine aw_mm (fun μ1 e_μ1 => ?_)
  refine aw_vret hO dX7_setAsks_10 ?_
  exact ⟨rfl, e_μ1⟩
theorem dX7_setFeigned_0 : decode cX7_setFeigned 0 = .ok (.aload_n 0, 1) := by decide +kernel
theorem dX7_setFeigned_1 : decode cX7_setFeigned 1 = .ok (.getfield 11, 3) := by decide +kernel
theorem dX7_setFeigned_4 : decode cX7_setFeigned 4 = .ok (.bipush 15, 2) := by decide +kernel
theorem dX7_setFeigned_6 : decode cX7_setFeigned 6 = .ok (.iload_n 2, 1) := by decide +kernel
theorem dX7_setFeigned_7 : decode cX7_setFeigned 7 = .ok (.bipush 6, 2) := by decide +kernel
theorem dX7_setFeigned_9 : decode cX7_setFeigned 9 = .ok (.imul, 1) := by decide +kernel
theorem dX7_setFeigned_10 : decode cX7_setFeigned 10 = .ok (.iadd, 1) := by decide +kernel
theorem dX7_setFeigned_11 : decode cX7_setFeigned 11 = .ok (.iload_n 1, 1) := by decide +kernel
theorem dX7_setFeigned_12 : decode cX7_setFeigned 12 = .ok (.iadd, 1) := by decide +kernel
theorem dX7_setFeigned_13 : decode cX7_setFeigned 13 = .ok (.iload_n 3, 1) := by decide +kernel
theorem dX7_setFeigned_14 : decode cX7_setFeigned 14 = .ok (.iastore, 1) := by decide +kernel
theorem dX7_setFeigned_15 : decode cX7_setFeigned 15 = .ok (.return_, 1) := by decide +kernel
set_option maxHeartbeats 4000000 in
set_option maxRecDepth 100000 in
theorem ctC_7_setFeigned (μ : Mm) {s : Nat} (hs : Sob s) {p t : Nat} {v : Int} (hp : p < 6) (ht : t < 2) : CtV PC 0 yX7_setFeigned cX7_setFeigned 4 none [vR s, vI ((p : Nat) : Int), vI ((t : Nat) : Int), vI v] μ (fun m => m = mst μ (s + 1) (15 + 6 * t + p) v) := by
  refine ct_intro [some (vR s), some (vI ((p : Nat) : Int)), some (vI ((t : Nat) : Int)), some (vI v)] RX7 (by decide) rfl XCo rfl (Nat.le_of_ble_eq_true rfl) (fun K hO => ?_)
  refine aw_aload_n hO dX7_setFeigned_0 rfl rfl ?_
  refine aw_get (f := 0) hO dX7_setFeigned_1 rfl okX7 (by decide) (lw_t1 149 rfl rfl) hs.1 hs.2.1 rfl rfl ?_
  refine aw_bipush hO dX7_setFeigned_4 rfl (by decide) (by decide) ?_
  refine aw_iload_n hO dX7_setFeigned_6 rfl rfl ?_
  refine aw_bipush hO dX7_setFeigned_7 rfl (by decide) (by decide) ?_
  refine aw_imul hO dX7_setFeigned_9 rfl ?_
  refine aw_iadd hO dX7_setFeigned_10 rfl ?_
  refine aw_iload_n hO dX7_setFeigned_11 rfl rfl ?_
  refine aw_iadd hO dX7_setFeigned_12 rfl ?_
  refine aw_iload_n hO dX7_setFeigned_13 rfl rfl ?_
  refine aw_iastn (N := 98) (i := (15 + 6 * t + p)) hO dX7_setFeigned_14 rfl hs.2.2.1 hs.2.2.2 (by decide) (by omega) (by omega) ?_
  refine aw_mm (fun μ1 e_μ1 => ?_)
  refine aw_vret hO dX7_setFeigned_15 ?_
  exact ⟨rfl, e_μ1⟩
theorem dX7_move_0 : decode cX7_move 0 = .ok (.aload_n 0, 1) := by decide +kernel
theorem dX7_move_1 : decode cX7_move 1 = .ok (.getfield 11, 3) := by decide +kernel
theorem dX7_move_4 : decode cX7_move 4 = .ok (.bipush 7, 2) := by decide +kernel
theorem dX7_move_6 : decode cX7_move 6 = .ok (.dup2, 1) := by decide +kernel
theorem dX7_move_7 : decode cX7_move 7 = .ok (.iaload, 1) := by decide +kernel
theorem dX7_move_8 : decode cX7_move 8 = .ok (.iconst 1, 1) := by decide +kernel
theorem dX7_move_9 : decode cX7_move 9 = .ok (.iload_n 1, 1) := by decide +kernel
theorem dX7_move_10 : decode cX7_move 10 = .ok (.ishl, 1) := by decide +kernel
theorem dX7_move_11 : decode cX7_move 11 = .ok (.ixor, 1) := by decide +kernel
theorem dX7_move_12 : decode cX7_move 12 = .ok (.iastore, 1) := by decide +kernel
theorem dX7_move_13 : decode cX7_move 13 = .ok (.return_, 1) := by decide +kernel
set_option maxHeartbeats 4000000 in
set_option maxRecDepth 100000 in
theorem ctC_7_move (μ : Mm) {s : Nat} (hs : Sob s) (p : Nat) : CtV PC 0 yX7_move cX7_move 2 none [vR s, vI ((p : Nat) : Int)] μ (fun m => m = mst μ (s + 1) 7 (bXor (μ.1 (s + 1) 7) (bShl 1 (p : Int)))) := by
  refine ct_intro [some (vR s), some (vI ((p : Nat) : Int))] RX7 (by decide) rfl XCo rfl (Nat.le_of_ble_eq_true rfl) (fun K hO => ?_)
  refine aw_aload_n hO dX7_move_0 rfl rfl ?_
  refine aw_get (f := 0) hO dX7_move_1 rfl okX7 (by decide) (lw_t1 149 rfl rfl) hs.1 hs.2.1 rfl rfl ?_
  refine aw_bipush hO dX7_move_4 rfl (by decide) (by decide) ?_
  refine aw_dup2 hO dX7_move_6 rfl rfl rfl ?_
  refine aw_ialdn (N := 98) (i := 7) hO dX7_move_7 rfl hs.2.2.1 hs.2.2.2 (by decide) rfl (by decide) ?_
  refine aw_iconst hO dX7_move_8 rfl ?_
  refine aw_iload_n hO dX7_move_9 rfl rfl ?_
  refine aw_ishl hO dX7_move_10 rfl ?_
  refine aw_ixor hO dX7_move_11 rfl ?_
  refine aw_iastn (N := 98) (i := 7) hO dX7_move_12 rfl hs.2.2.1 hs.2.2.2 (by decide) rfl (by decide) ?_
  refine aw_mm (fun μ1 e_μ1 => ?_)
  refine aw_vret hO dX7_move_13 ?_
  exact ⟨rfl, e_μ1⟩
theorem dX7_meet_0 : decode cX7_meet 0 = .ok (.aload_n 0, 1) := by decide +kernel
theorem dX7_meet_1 : decode cX7_meet 1 = .ok (.getfield 11, 3) := by decide +kernel
theorem dX7_meet_4 : decode cX7_meet 4 = .ok (.bipush 9, 2) := by decide +kernel
theorem dX7_meet_6 : decode cX7_meet 6 = .ok (.iload_n 1, 1) := by decide +kernel
theorem dX7_meet_7 : decode cX7_meet 7 = .ok (.iadd, 1) := by decide +kernel
theorem dX7_meet_8 : decode cX7_meet 8 = .ok (.iaload, 1) := by decide +kernel
theorem dX7_meet_9 : decode cX7_meet 9 = .ok (.bipush 9, 2) := by decide +kernel
theorem dX7_meet_11 : decode cX7_meet 11 = .ok (.if_icmp .ge 16, 3) := by decide +kernel
theorem dX7_meet_14 : decode cX7_meet 14 = .ok (.aload_n 0, 1) := by decide +kernel
theorem dX7_meet_15 : decode cX7_meet 15 = .ok (.getfield 11, 3) := by decide +kernel
theorem dX7_meet_18 : decode cX7_meet 18 = .ok (.bipush 9, 2) := by decide +kernel
theorem dX7_meet_20 : decode cX7_meet 20 = .ok (.iload_n 1, 1) := by decide +kernel
theorem dX7_meet_21 : decode cX7_meet 21 = .ok (.iadd, 1) := by decide +kernel
theorem dX7_meet_22 : decode cX7_meet 22 = .ok (.dup2, 1) := by decide +kernel
theorem dX7_meet_23 : decode cX7_meet 23 = .ok (.iaload, 1) := by decide +kernel
theorem dX7_meet_24 : decode cX7_meet 24 = .ok (.iconst 1, 1) := by decide +kernel
theorem dX7_meet_25 : decode cX7_meet 25 = .ok (.iadd, 1) := by decide +kernel
theorem dX7_meet_26 : decode cX7_meet 26 = .ok (.iastore, 1) := by decide +kernel
theorem dX7_meet_27 : decode cX7_meet 27 = .ok (.return_, 1) := by decide +kernel
set_option maxHeartbeats 4000000 in
set_option maxRecDepth 100000 in
theorem ctC_7_meet (μ : Mm) {s : Nat} (hs : Sob s) {p : Nat} (hp : p < 6) (hb : 0 ≤ μ.1 (s + 1) (9 + p) ∧ μ.1 (s + 1) (9 + p) ≤ 9) : CtV PC 0 yX7_meet cX7_meet 2 none [vR s, vI ((p : Nat) : Int)] μ (fun m => m = mst μ (s + 1) (9 + p) (min 9 (μ.1 (s + 1) (9 + p) + 1))) := by
  refine ct_intro [some (vR s), some (vI ((p : Nat) : Int))] RX7 (by decide) rfl XCo rfl (Nat.le_of_ble_eq_true rfl) (fun K hO => ?_)
  refine aw_aload_n hO dX7_meet_0 rfl rfl ?_
  refine aw_get (f := 0) hO dX7_meet_1 rfl okX7 (by decide) (lw_t1 149 rfl rfl) hs.1 hs.2.1 rfl rfl ?_
  refine aw_bipush hO dX7_meet_4 rfl (by decide) (by decide) ?_
  refine aw_iload_n hO dX7_meet_6 rfl rfl ?_
  refine aw_iadd hO dX7_meet_7 rfl ?_
  refine aw_ialdn (N := 98) (i := (9 + p)) hO dX7_meet_8 rfl hs.2.2.1 hs.2.2.2 (by decide) (by omega) (by omega) ?_
  refine aw_bipush hO dX7_meet_9 rfl (by decide) (by decide) ?_
  refine aw_icmp_ge (tgt := 27) hO dX7_meet_11 rfl rfl ⟨by omega, by omega⟩ (inRlit _) (fun c11 => ?_) (fun c11 => ?_)
  · refine aw_vret hO dX7_meet_27 ?_
    exact ⟨rfl, (mst_self (by omega)).symm⟩
  · refine aw_aload_n hO dX7_meet_14 rfl rfl ?_
    refine aw_get (f := 0) hO dX7_meet_15 rfl okX7 (by decide) (lw_t1 149 rfl rfl) hs.1 hs.2.1 rfl rfl ?_
    refine aw_bipush hO dX7_meet_18 rfl (by decide) (by decide) ?_
    refine aw_iload_n hO dX7_meet_20 rfl rfl ?_
    refine aw_iadd hO dX7_meet_21 rfl ?_
    refine aw_dup2 hO dX7_meet_22 rfl rfl rfl ?_
    refine aw_ialdn (N := 98) (i := (9 + p)) hO dX7_meet_23 rfl hs.2.2.1 hs.2.2.2 (by decide) (by omega) (by omega) ?_
    refine aw_iconst hO dX7_meet_24 rfl ?_
    refine aw_iadd hO dX7_meet_25 rfl ?_
    refine aw_iastn (N := 98) (i := (9 + p)) hO dX7_meet_26 rfl hs.2.2.1 hs.2.2.2 (by decide) (by omega) (by omega) ?_
    refine aw_mm (fun μ1 e_μ1 => ?_)
    refine aw_vret hO dX7_meet_27 ?_
    exact ⟨rfl, by rw [e_μ1]; congr 1; omega⟩
theorem dX7_canFeign_0 : decode cX7_canFeign 0 = .ok (.aload_n 0, 1) := by decide +kernel
theorem dX7_canFeign_1 : decode cX7_canFeign 1 = .ok (.iload_n 1, 1) := by decide +kernel
theorem dX7_canFeign_2 : decode cX7_canFeign 2 = .ok (.invokevirtual 41, 3) := by decide +kernel
theorem dX7_canFeign_5 : decode cX7_canFeign 5 = .ok (.ifCond .ne 17, 3) := by decide +kernel
theorem dX7_canFeign_8 : decode cX7_canFeign 8 = .ok (.aload_n 0, 1) := by decide +kernel
theorem dX7_canFeign_9 : decode cX7_canFeign 9 = .ok (.iload_n 1, 1) := by decide +kernel
theorem dX7_canFeign_10 : decode cX7_canFeign 10 = .ok (.iload_n 2, 1) := by decide +kernel
theorem dX7_canFeign_11 : decode cX7_canFeign 11 = .ok (.invokevirtual 45, 3) := by decide +kernel
theorem dX7_canFeign_14 : decode cX7_canFeign 14 = .ok (.iconst 3, 1) := by decide +kernel
theorem dX7_canFeign_15 : decode cX7_canFeign 15 = .ok (.if_icmp .ge 7, 3) := by decide +kernel
theorem dX7_canFeign_18 : decode cX7_canFeign 18 = .ok (.iconst 1, 1) := by decide +kernel
theorem dX7_canFeign_19 : decode cX7_canFeign 19 = .ok (.goto 4, 3) := by decide +kernel
theorem dX7_canFeign_22 : decode cX7_canFeign 22 = .ok (.iconst 0, 1) := by decide +kernel
theorem dX7_canFeign_23 : decode cX7_canFeign 23 = .ok (.ireturn, 1) := by decide +kernel
set_option maxHeartbeats 4000000 in
set_option maxRecDepth 100000 in
theorem ctC_7_canFeign (μ : Mm) {s : Nat} (hs : Sob s) {p t : Nat} (hp : p < 6) (ht : t < 2) (hb : 0 ≤ μ.1 (s + 1) (15 + 6 * t + p) ∧ μ.1 (s + 1) (15 + 6 * t + p) ≤ 3) : CtI PC 1 yX7_canFeign cX7_canFeign 3 (some .boolean) [vR s, vI ((p : Nat) : Int), vI ((t : Nat) : Int)] μ (if hasB (μ.1 (s + 1) 7) p = false ∧ μ.1 (s + 1) (15 + 6 * t + p) < 3 then 1 else 0) := by
  refine ct_intro [some (vR s), some (vI ((p : Nat) : Int)), some (vI ((t : Nat) : Int))] RX7 (by decide) rfl XCo rfl (Nat.le_of_ble_eq_true rfl) (fun K hO => ?_)
  refine aw_aload_n hO dX7_canFeign_0 rfl rfl ?_
  refine aw_iload_n hO dX7_canFeign_1 rfl rfl ?_
  refine aw_callVI (as := [vI ((p : Nat) : Int)]) (st := []) hO dX7_canFeign_2 rfl (lw_t3 178 rfl rfl) kX7_isAway (T := TX7) rfl hs.1 hs.2.1 (ctC_7_isAway μ hs p) (by decide) rfl rfl rfl (Nat.le_of_ble_eq_true rfl) ?_
  refine aw_ifz_ne (tgt := 22) hO dX7_canFeign_5 rfl rfl (fun c5 => ?_) (fun c5 => ?_)
  · refine aw_iconst hO dX7_canFeign_22 rfl ?_
    refine aw_zret hO dX7_canFeign_23 (Or.inl rfl) ?_
    exact rI (by rw [if_neg (by rw [c5]; simp)])
  · refine aw_aload_n hO dX7_canFeign_8 rfl rfl ?_
    refine aw_iload_n hO dX7_canFeign_9 rfl rfl ?_
    refine aw_iload_n hO dX7_canFeign_10 rfl rfl ?_
    refine aw_callVI (as := [vI ((p : Nat) : Int), vI ((t : Nat) : Int)]) (st := []) hO dX7_canFeign_11 rfl (lw_t3 179 rfl rfl) kX7_feigned (T := TX7) rfl hs.1 hs.2.1 (ctC_7_feigned μ hs hp ht) (by decide) rfl rfl rfl (Nat.le_of_ble_eq_true rfl) ?_
    refine aw_iconst hO dX7_canFeign_14 rfl ?_
    refine aw_icmp_ge (tgt := 22) hO dX7_canFeign_15 rfl rfl ⟨by omega, by omega⟩ (inRlit _) (fun c15 => ?_) (fun c15 => ?_)
    · refine aw_iconst hO dX7_canFeign_22 rfl ?_
      refine aw_zret hO dX7_canFeign_23 (Or.inl rfl) ?_
      exact rI (by rw [if_neg (fun q => by have := q.2; omega)])
    · refine aw_iconst hO dX7_canFeign_18 rfl ?_
      refine aw_goto (tgt := 23) hO dX7_canFeign_19 rfl ?_
      refine aw_zret hO dX7_canFeign_23 (Or.inr rfl) ?_
      exact rI (by rw [if_pos ⟨Bool.not_eq_true _ ▸ c5, c15⟩])
theorem dX7_metBits_0 : decode cX7_metBits 0 = .ok (.iconst 0, 1) := by decide +kernel
theorem dX7_metBits_1 : decode cX7_metBits 1 = .ok (.istore_n 1, 1) := by decide +kernel
theorem dX7_metBits_2 : decode cX7_metBits 2 = .ok (.iconst 0, 1) := by decide +kernel
theorem dX7_metBits_3 : decode cX7_metBits 3 = .ok (.istore_n 2, 1) := by decide +kernel
theorem dX7_metBits_4 : decode cX7_metBits 4 = .ok (.iload_n 2, 1) := by decide +kernel
theorem dX7_metBits_5 : decode cX7_metBits 5 = .ok (.bipush 6, 2) := by decide +kernel
theorem dX7_metBits_7 : decode cX7_metBits 7 = .ok (.if_icmp .ge 27, 3) := by decide +kernel
theorem dX7_metBits_10 : decode cX7_metBits 10 = .ok (.aload_n 0, 1) := by decide +kernel
theorem dX7_metBits_11 : decode cX7_metBits 11 = .ok (.getfield 11, 3) := by decide +kernel
theorem dX7_metBits_14 : decode cX7_metBits 14 = .ok (.bipush 9, 2) := by decide +kernel
theorem dX7_metBits_16 : decode cX7_metBits 16 = .ok (.iload_n 2, 1) := by decide +kernel
theorem dX7_metBits_17 : decode cX7_metBits 17 = .ok (.iadd, 1) := by decide +kernel
theorem dX7_metBits_18 : decode cX7_metBits 18 = .ok (.iaload, 1) := by decide +kernel
theorem dX7_metBits_19 : decode cX7_metBits 19 = .ok (.ifCond .le 9, 3) := by decide +kernel
theorem dX7_metBits_22 : decode cX7_metBits 22 = .ok (.iload_n 1, 1) := by decide +kernel
theorem dX7_metBits_23 : decode cX7_metBits 23 = .ok (.iconst 1, 1) := by decide +kernel
theorem dX7_metBits_24 : decode cX7_metBits 24 = .ok (.iload_n 2, 1) := by decide +kernel
theorem dX7_metBits_25 : decode cX7_metBits 25 = .ok (.ishl, 1) := by decide +kernel
theorem dX7_metBits_26 : decode cX7_metBits 26 = .ok (.ior, 1) := by decide +kernel
theorem dX7_metBits_27 : decode cX7_metBits 27 = .ok (.istore_n 1, 1) := by decide +kernel
theorem dX7_metBits_28 : decode cX7_metBits 28 = .ok (.iinc 2 1, 3) := by decide +kernel
theorem dX7_metBits_31 : decode cX7_metBits 31 = .ok (.goto (-27), 3) := by decide +kernel
theorem dX7_metBits_34 : decode cX7_metBits 34 = .ok (.iload_n 1, 1) := by decide +kernel
theorem dX7_metBits_35 : decode cX7_metBits 35 = .ok (.ireturn, 1) := by decide +kernel

theorem metO_R (f : Nat → Int) : ∀ n, InR (metO f n)
  | 0 => inRlit 0
  | n + 1 => by rw [metO_s]; exact bOr_R _ _
theorem bOr_z {b : Int} (hb : InR b) : bOr b 0 = b := by
  refine hasB_ext (bOr_R _ _) hb (fun p hp => ?_)
  rw [hasB_or hp, hasB_0 hp, Bool.or_false]
set_option maxHeartbeats 4000000 in
set_option maxRecDepth 100000 in
theorem ctC_7_metBits (μ : Mm) {s : Nat} (hs : Sob s) (hM : ∀ p, p < 6 → 0 ≤ μ.1 (s + 1) (9 + p) ∧ μ.1 (s + 1) (9 + p) ≤ 9) : CtI PC 0 yX7_metBits cX7_metBits 3 (some .int) [vR s] μ (metO (fun p => μ.1 (s + 1) (9 + p)) 6) := by
  refine ct_intro [some (vR s), none, none] RX7 (by decide) rfl XCo rfl (Nat.le_of_ble_eq_true rfl) (fun K hO => ?_)
  have lp : ∀ (c : Nat) (i : Nat) (b : Int), (i + c = 6) → (b = metO (fun p => μ.1 (s + 1) (9 + p)) i) → AW K 4 [some (vR s), some (vI b), some (vI ((i : Nat) : Int))] [] μ := by
    intro c
    induction c with
    | zero =>
      intro i b hi hx
      refine aw_iload_n hO dX7_metBits_4 rfl rfl ?_
      refine aw_bipush hO dX7_metBits_5 rfl (by decide) (by decide) ?_
      refine aw_icmp_ge (tgt := 34) hO dX7_metBits_7 rfl rfl (inRn (by omega)) (inRlit _) (fun c7 => ?_) (fun c7 => ?_)
      · refine aw_iload_n hO dX7_metBits_34 rfl rfl ?_
        refine aw_iret hO dX7_metBits_35 ?_
        exact rI (by rw [hx, show i = 6 by omega])
      · exact absurd c7 (by omega)
    | succ c ih =>
      intro i b hi hx
      have hm := hM i (by omega)
      have hb : InR b := by rw [hx]; exact metO_R _ _
      refine aw_iload_n hO dX7_metBits_4 rfl rfl ?_
      refine aw_bipush hO dX7_metBits_5 rfl (by decide) (by decide) ?_
      refine aw_icmp_ge (tgt := 34) hO dX7_metBits_7 rfl rfl (inRn (by omega)) (inRlit _) (fun c7 => ?_) (fun c7 => ?_)
      · exact absurd c7 (by omega)
      · refine aw_aload_n hO dX7_metBits_10 rfl rfl ?_
        refine aw_get (f := 0) hO dX7_metBits_11 rfl okX7 (by decide) (lw_t1 149 rfl rfl) hs.1 hs.2.1 rfl rfl ?_
        refine aw_bipush hO dX7_metBits_14 rfl (by decide) (by decide) ?_
        refine aw_iload_n hO dX7_metBits_16 rfl rfl ?_
        refine aw_iadd hO dX7_metBits_17 rfl ?_
        refine aw_ialdn (N := 98) (i := (9 + i)) hO dX7_metBits_18 rfl hs.2.2.1 hs.2.2.2 (by decide) (by omega) (by omega) ?_
        refine aw_if_le (tgt := 28) hO dX7_metBits_19 rfl rfl ⟨by omega, by omega⟩ (fun c19 => ?_) (fun c19 => ?_)
        · refine aw_iinc (ls' := [some (vR s), some (vI b), some (vI (((i : Nat) : Int) + 1))]) hO dX7_metBits_28 rfl rfl rfl rfl ?_
          refine aw_lsq (ls' := [some (vR s), some (vI b), some (vI (((i + 1) : Nat) : Int))]) rfl ?_
          refine aw_goto (tgt := 4) hO dX7_metBits_31 rfl ?_
          refine aw_lsq (ls' := [some (vR s), some (vI b), some (vI (((i + 1) : Nat) : Int))]) rfl ?_
          exact ih (i + 1) b (by omega) (by rw [metO_s, if_neg (by omega), ← hx, bOr_z hb])
        · refine aw_iload_n hO dX7_metBits_22 rfl rfl ?_
          refine aw_iconst hO dX7_metBits_23 rfl ?_
          refine aw_iload_n hO dX7_metBits_24 rfl rfl ?_
          refine aw_ishl hO dX7_metBits_25 rfl ?_
          refine aw_ior hO dX7_metBits_26 rfl ?_
          refine aw_istore_n (ls' := [some (vR s), some (vI (bOr b (bShl 1 ((i : Nat) : Int)))), some (vI ((i : Nat) : Int))]) hO dX7_metBits_27 rfl (Nat.le_of_ble_eq_true rfl) rfl rfl ?_
          refine aw_iinc (ls' := [some (vR s), some (vI (bOr b (bShl 1 ((i : Nat) : Int)))), some (vI (((i : Nat) : Int) + 1))]) hO dX7_metBits_28 rfl rfl rfl rfl ?_
          refine aw_lsq (ls' := [some (vR s), some (vI (bOr b (bShl 1 ((i : Nat) : Int)))), some (vI (((i + 1) : Nat) : Int))]) rfl ?_
          refine aw_goto (tgt := 4) hO dX7_metBits_31 rfl ?_
          refine aw_lsq (ls' := [some (vR s), some (vI (bOr b (bShl 1 ((i : Nat) : Int)))), some (vI (((i + 1) : Nat) : Int))]) rfl ?_
          exact ih (i + 1) _ (by omega) (by rw [metO_s, if_pos (by omega), ← hx])
  refine aw_iconst hO dX7_metBits_0 rfl ?_
  refine aw_istore_n (ls' := [some (vR s), some (vI 0), none]) hO dX7_metBits_1 rfl (Nat.le_of_ble_eq_true rfl) rfl rfl ?_
  refine aw_iconst hO dX7_metBits_2 rfl ?_
  refine aw_istore_n (ls' := [some (vR s), some (vI 0), some (vI 0)]) hO dX7_metBits_3 rfl (Nat.le_of_ble_eq_true rfl) rfl rfl ?_
  refine aw_lsq (ls' := [some (vR s), some (vI 0), some (vI ((0 : Nat) : Int))]) rfl ?_
  exact lp 6 0 0 rfl rfl
theorem dX7_copyFrom_0 : decode cX7_copyFrom 0 = .ok (.aload_n 1, 1) := by decide +kernel
theorem dX7_copyFrom_1 : decode cX7_copyFrom 1 = .ok (.getfield 11, 3) := by decide +kernel
theorem dX7_copyFrom_4 : decode cX7_copyFrom 4 = .ok (.iconst 0, 1) := by decide +kernel
theorem dX7_copyFrom_5 : decode cX7_copyFrom 5 = .ok (.aload_n 0, 1) := by decide +kernel
theorem dX7_copyFrom_6 : decode cX7_copyFrom 6 = .ok (.getfield 11, 3) := by decide +kernel
theorem dX7_copyFrom_9 : decode cX7_copyFrom 9 = .ok (.iconst 0, 1) := by decide +kernel
theorem dX7_copyFrom_10 : decode cX7_copyFrom 10 = .ok (.bipush 98, 2) := by decide +kernel
theorem dX7_copyFrom_12 : decode cX7_copyFrom 12 = .ok (.invokestatic 35, 3) := by decide +kernel
theorem dX7_copyFrom_15 : decode cX7_copyFrom 15 = .ok (.return_, 1) := by decide +kernel
set_option maxHeartbeats 4000000 in
set_option maxRecDepth 100000 in
theorem ctC_7_copyFrom (μ : Mm) {s : Nat} (hs : Sob s) {r : Nat} (hr : Sob r) : CtV PC 1 yX7_copyFrom cX7_copyFrom 2 none [vR s, vR r] μ (fun m => m = mcp μ (s + 1) (r + 1) 0 0 98) := by
  refine ct_intro [some (vR s), some (vR r)] RX7 (by decide) rfl XCo rfl (Nat.le_of_ble_eq_true rfl) (fun K hO => ?_)
  refine aw_aload_n hO dX7_copyFrom_0 rfl rfl ?_
  refine aw_get (f := 0) hO dX7_copyFrom_1 rfl okX7 (by decide) (lw_t1 149 rfl rfl) hr.1 hr.2.1 rfl rfl ?_
  refine aw_iconst hO dX7_copyFrom_4 rfl ?_
  refine aw_aload_n hO dX7_copyFrom_5 rfl rfl ?_
  refine aw_get (f := 0) hO dX7_copyFrom_6 rfl okX7 (by decide) (lw_t1 149 rfl rfl) hs.1 hs.2.1 rfl rfl ?_
  refine aw_iconst hO dX7_copyFrom_9 rfl ?_
  refine aw_bipush hO dX7_copyFrom_10 rfl (by decide) (by decide) ?_
  refine aw_cpy (sp := 0) (dp := 0) (m := 98) hO dX7_copyFrom_12 rfl (lw_t4 179 rfl rfl) cpw hr.2.2.1 hr.2.2.2 hs.2.2.1 hs.2.2.2 rfl (by decide) (by decide) rfl rfl rfl (by decide) (by decide) (by decide) rfl (Nat.le_of_ble_eq_true rfl) ?_
  refine aw_mm (fun μ1 e_μ1 => ?_)
  refine aw_vret hO dX7_copyFrom_15 ?_
  exact ⟨rfl, e_μ1⟩
theorem dX9_copyFrom_0 : decode cX9_copyFrom 0 = .ok (.aload_n 1, 1) := by decide +kernel
theorem dX9_copyFrom_1 : decode cX9_copyFrom 1 = .ok (.getfield 11, 3) := by decide +kernel
theorem dX9_copyFrom_4 : decode cX9_copyFrom 4 = .ok (.iconst 0, 1) := by decide +kernel
theorem dX9_copyFrom_5 : decode cX9_copyFrom 5 = .ok (.aload_n 0, 1) := by decide +kernel
theorem dX9_copyFrom_6 : decode cX9_copyFrom 6 = .ok (.getfield 11, 3) := by decide +kernel
theorem dX9_copyFrom_9 : decode cX9_copyFrom 9 = .ok (.iconst 0, 1) := by decide +kernel
theorem dX9_copyFrom_10 : decode cX9_copyFrom 10 = .ok (.aload_n 0, 1) := by decide +kernel
theorem dX9_copyFrom_11 : decode cX9_copyFrom 11 = .ok (.getfield 11, 3) := by decide +kernel
theorem dX9_copyFrom_14 : decode cX9_copyFrom 14 = .ok (.arraylength, 1) := by decide +kernel
theorem dX9_copyFrom_15 : decode cX9_copyFrom 15 = .ok (.invokestatic 22, 3) := by decide +kernel
theorem dX9_copyFrom_18 : decode cX9_copyFrom 18 = .ok (.aload_n 0, 1) := by decide +kernel
theorem dX9_copyFrom_19 : decode cX9_copyFrom 19 = .ok (.aload_n 1, 1) := by decide +kernel
theorem dX9_copyFrom_20 : decode cX9_copyFrom 20 = .ok (.getfield 15, 3) := by decide +kernel
theorem dX9_copyFrom_23 : decode cX9_copyFrom 23 = .ok (.putfield 15, 3) := by decide +kernel
theorem dX9_copyFrom_26 : decode cX9_copyFrom 26 = .ok (.aload_n 0, 1) := by decide +kernel
theorem dX9_copyFrom_27 : decode cX9_copyFrom 27 = .ok (.aload_n 1, 1) := by decide +kernel
theorem dX9_copyFrom_28 : decode cX9_copyFrom 28 = .ok (.getfield 19, 3) := by decide +kernel
theorem dX9_copyFrom_31 : decode cX9_copyFrom 31 = .ok (.putfield 19, 3) := by decide +kernel
theorem dX9_copyFrom_34 : decode cX9_copyFrom 34 = .ok (.return_, 1) := by decide +kernel
set_option maxRecDepth 100000 in
theorem gC_X9_11_5 {Q : Option AV → Mm → Prop} {K : KT} {cc : ByteArray} {nL d : Nat} {ret : Option FieldType} {pc n : Nat} {ls : List (Option AV)} {st : List AV} {μ : Mm} (hO : KOk PC Q K cc RX9 nL d ret) (hd : decode cc pc = .ok (.getfield 11, 3)) (hn : pc + 3 = n) (kk : AW K n ls (vR 6 :: st) μ) : AW K pc ls (vR 5 :: st) μ := aw_get (f := 0) hO hd hn okX9 (by decide) (lw_t1 75 rfl rfl) (by decide) rfl rfl rfl kk
set_option maxRecDepth 100000 in
theorem gC_X9_11_25 {Q : Option AV → Mm → Prop} {K : KT} {cc : ByteArray} {nL d : Nat} {ret : Option FieldType} {pc n : Nat} {ls : List (Option AV)} {st : List AV} {μ : Mm} (hO : KOk PC Q K cc RX9 nL d ret) (hd : decode cc pc = .ok (.getfield 11, 3)) (hn : pc + 3 = n) (kk : AW K n ls (vR 26 :: st) μ) : AW K pc ls (vR 25 :: st) μ := aw_get (f := 0) hO hd hn okX9 (by decide) (lw_t1 75 rfl rfl) (by decide) rfl rfl rfl kk
set_option maxRecDepth 100000 in
theorem gC_X9_15_5 {Q : Option AV → Mm → Prop} {K : KT} {cc : ByteArray} {nL d : Nat} {ret : Option FieldType} {pc n : Nat} {ls : List (Option AV)} {st : List AV} {μ : Mm} (hO : KOk PC Q K cc RX9 nL d ret) (hd : decode cc pc = .ok (.getfield 15, 3)) (hn : pc + 3 = n) (kk : AW K n ls (vI (μ.1 5 1) :: st) μ) : AW K pc ls (vR 5 :: st) μ := aw_get (f := 1) hO hd hn okX9 (by decide) (lw_t1 77 rfl rfl) (by decide) rfl rfl rfl kk
set_option maxRecDepth 100000 in
theorem pC_X9_15_25 {Q : Option AV → Mm → Prop} {K : KT} {cc : ByteArray} {nL d : Nat} {ret : Option FieldType} {pc n : Nat} {ls : List (Option AV)} {st : List AV} {μ : Mm} {a : Int} (hO : KOk PC Q K cc RX9 nL d ret) (hd : decode cc pc = .ok (.putfield 15, 3)) (hn : pc + 3 = n) (kk : AW K n ls st (mst μ 25 1 a)) : AW K pc ls (vI a :: vR 25 :: st) μ := aw_put (f := 1) hO hd hn okX9 tyX9_ok nmX9 (by decide) (lw_t1 77 rfl rfl) rfl rfl rfl (by decide) rfl rfl kk
set_option maxRecDepth 100000 in
theorem gC_X9_19_5 {Q : Option AV → Mm → Prop} {K : KT} {cc : ByteArray} {nL d : Nat} {ret : Option FieldType} {pc n : Nat} {ls : List (Option AV)} {st : List AV} {μ : Mm} (hO : KOk PC Q K cc RX9 nL d ret) (hd : decode cc pc = .ok (.getfield 19, 3)) (hn : pc + 3 = n) (kk : AW K n ls (vI (μ.1 5 2) :: st) μ) : AW K pc ls (vR 5 :: st) μ := aw_get (f := 2) hO hd hn okX9 (by decide) (lw_t1 84 rfl rfl) (by decide) rfl rfl rfl kk
set_option maxRecDepth 100000 in
theorem pC_X9_19_25 {Q : Option AV → Mm → Prop} {K : KT} {cc : ByteArray} {nL d : Nat} {ret : Option FieldType} {pc n : Nat} {ls : List (Option AV)} {st : List AV} {μ : Mm} {a : Int} (hO : KOk PC Q K cc RX9 nL d ret) (hd : decode cc pc = .ok (.putfield 19, 3)) (hn : pc + 3 = n) (kk : AW K n ls st (mst μ 25 2 a)) : AW K pc ls (vI a :: vR 25 :: st) μ := aw_put (f := 2) hO hd hn okX9 tyX9_ok nmX9 (by decide) (lw_t1 84 rfl rfl) rfl rfl rfl (by decide) rfl rfl kk
set_option maxHeartbeats 4000000 in
set_option maxRecDepth 100000 in
theorem ctC_9_copyFrom (μ : Mm)  : CtV PC 1 yX9_copyFrom cX9_copyFrom 2 none [vR 25, vR 5] μ (fun m => m = mst (mst (mcp μ 26 6 0 0 48) 25 1 (μ.1 5 1)) 25 2 (μ.1 5 2)) := by
  refine ct_intro [some (vR 25), some (vR 5)] RX9 (by decide) rfl XCo rfl (Nat.le_of_ble_eq_true rfl) (fun K hO => ?_)
  refine aw_aload_n hO dX9_copyFrom_0 rfl rfl ?_
  refine gC_X9_11_5 hO dX9_copyFrom_1 rfl ?_
  refine aw_iconst hO dX9_copyFrom_4 rfl ?_
  refine aw_aload_n hO dX9_copyFrom_5 rfl rfl ?_
  refine gC_X9_11_25 hO dX9_copyFrom_6 rfl ?_
  refine aw_iconst hO dX9_copyFrom_9 rfl ?_
  refine aw_aload_n hO dX9_copyFrom_10 rfl rfl ?_
  refine gC_X9_11_25 hO dX9_copyFrom_11 rfl ?_
  refine aw_alen (N := 48) hO dX9_copyFrom_14 rfl (by decide) rfl ?_
  refine aw_cg (show ((48 : Nat) : Int) = 48 from rfl) ?_
  refine aw_cpy (sp := 0) (dp := 0) (m := 48) hO dX9_copyFrom_15 rfl (lw_t3 61 rfl rfl) cpw (by decide) rfl (by decide) rfl rfl (by decide) (by decide) rfl rfl rfl (by decide) (by decide) (by decide) rfl (Nat.le_of_ble_eq_true rfl) ?_
  refine aw_mm (fun μ1 e_μ1 => ?_)
  refine aw_aload_n hO dX9_copyFrom_18 rfl rfl ?_
  refine aw_aload_n hO dX9_copyFrom_19 rfl rfl ?_
  refine gC_X9_15_5 hO dX9_copyFrom_20 rfl ?_
  refine pC_X9_15_25 hO dX9_copyFrom_23 rfl ?_
  refine aw_mm (fun μ2 e_μ2 => ?_)
  refine aw_aload_n hO dX9_copyFrom_26 rfl rfl ?_
  refine aw_aload_n hO dX9_copyFrom_27 rfl rfl ?_
  refine gC_X9_19_5 hO dX9_copyFrom_28 rfl ?_
  refine pC_X9_19_25 hO dX9_copyFrom_31 rfl ?_
  refine aw_mm (fun μ3 e_μ3 => ?_)
  refine aw_vret hO dX9_copyFrom_34 ?_
  exact ⟨rfl, by rw [e_μ3, e_μ2, e_μ1, mst_nk (by decide), mcp_nk (by decide), mcp_nk (by decide)]⟩
theorem dX9_isTold_0 : decode cX9_isTold 0 = .ok (.aload_n 0, 1) := by decide +kernel
theorem dX9_isTold_1 : decode cX9_isTold 1 = .ok (.getfield 15, 3) := by decide +kernel
theorem dX9_isTold_4 : decode cX9_isTold 4 = .ok (.ifCond .le 7, 3) := by decide +kernel
theorem dX9_isTold_7 : decode cX9_isTold 7 = .ok (.iconst 1, 1) := by decide +kernel
theorem dX9_isTold_8 : decode cX9_isTold 8 = .ok (.goto 4, 3) := by decide +kernel
theorem dX9_isTold_11 : decode cX9_isTold 11 = .ok (.iconst 0, 1) := by decide +kernel
theorem dX9_isTold_12 : decode cX9_isTold 12 = .ok (.ireturn, 1) := by decide +kernel
set_option maxRecDepth 100000 in
theorem gC_X9_15_25 {Q : Option AV → Mm → Prop} {K : KT} {cc : ByteArray} {nL d : Nat} {ret : Option FieldType} {pc n : Nat} {ls : List (Option AV)} {st : List AV} {μ : Mm} (hO : KOk PC Q K cc RX9 nL d ret) (hd : decode cc pc = .ok (.getfield 15, 3)) (hn : pc + 3 = n) (kk : AW K n ls (vI (μ.1 25 1) :: st) μ) : AW K pc ls (vR 25 :: st) μ := aw_get (f := 1) hO hd hn okX9 (by decide) (lw_t1 77 rfl rfl) (by decide) rfl rfl rfl kk
set_option maxHeartbeats 4000000 in
set_option maxRecDepth 100000 in
theorem ctC_9_isTold (μ : Mm) (hp : 0 ≤ μ.1 25 1 ∧ μ.1 25 1 ≤ 6) : CtI PC 0 yX9_isTold cX9_isTold 1 (some .boolean) [vR 25] μ (if μ.1 25 1 ≠ 0 then 1 else 0) := by
  refine ct_intro [some (vR 25)] RX9 (by decide) rfl XCo rfl (Nat.le_of_ble_eq_true rfl) (fun K hO => ?_)
  refine aw_aload_n hO dX9_isTold_0 rfl rfl ?_
  refine gC_X9_15_25 hO dX9_isTold_1 rfl ?_
  refine aw_if_le (tgt := 11) hO dX9_isTold_4 rfl rfl ⟨by omega, by omega⟩ (fun c4 => ?_) (fun c4 => ?_)
  · refine aw_iconst hO dX9_isTold_11 rfl ?_
    refine aw_zret hO dX9_isTold_12 (Or.inl rfl) ?_
    exact rI (by split <;> omega)
  · refine aw_iconst hO dX9_isTold_7 rfl ?_
    refine aw_goto (tgt := 12) hO dX9_isTold_8 rfl ?_
    refine aw_zret hO dX9_isTold_12 (Or.inr rfl) ?_
    exact rI (by split <;> omega)
theorem dX9_hasPerson_0 : decode cX9_hasPerson 0 = .ok (.iload_n 1, 1) := by decide +kernel
theorem dX9_hasPerson_1 : decode cX9_hasPerson 1 = .ok (.ifCond .lt 15, 3) := by decide +kernel
theorem dX9_hasPerson_4 : decode cX9_hasPerson 4 = .ok (.iload_n 1, 1) := by decide +kernel
theorem dX9_hasPerson_5 : decode cX9_hasPerson 5 = .ok (.aload_n 0, 1) := by decide +kernel
theorem dX9_hasPerson_6 : decode cX9_hasPerson 6 = .ok (.getfield 15, 3) := by decide +kernel
theorem dX9_hasPerson_9 : decode cX9_hasPerson 9 = .ok (.if_icmp .ge 7, 3) := by decide +kernel
theorem dX9_hasPerson_12 : decode cX9_hasPerson 12 = .ok (.iconst 1, 1) := by decide +kernel
theorem dX9_hasPerson_13 : decode cX9_hasPerson 13 = .ok (.goto 4, 3) := by decide +kernel
theorem dX9_hasPerson_16 : decode cX9_hasPerson 16 = .ok (.iconst 0, 1) := by decide +kernel
theorem dX9_hasPerson_17 : decode cX9_hasPerson 17 = .ok (.ireturn, 1) := by decide +kernel
set_option maxHeartbeats 4000000 in
set_option maxRecDepth 100000 in
theorem ctC_9_hasPerson (μ : Mm) (hp : 0 ≤ μ.1 25 1 ∧ μ.1 25 1 ≤ 6) {v : Int} (hv : InR v) : CtI PC 0 yX9_hasPerson cX9_hasPerson 2 (some .boolean) [vR 25, vI v] μ (if 0 ≤ v ∧ v < μ.1 25 1 then 1 else 0) := by
  refine ct_intro [some (vR 25), some (vI v)] RX9 (by decide) rfl XCo rfl (Nat.le_of_ble_eq_true rfl) (fun K hO => ?_)
  refine aw_iload_n hO dX9_hasPerson_0 rfl rfl ?_
  refine aw_if_lt (tgt := 16) hO dX9_hasPerson_1 rfl rfl hv (fun c1 => ?_) (fun c1 => ?_)
  · refine aw_iconst hO dX9_hasPerson_16 rfl ?_
    refine aw_zret hO dX9_hasPerson_17 (Or.inl rfl) ?_
    exact rI (by split <;> omega)
  · refine aw_iload_n hO dX9_hasPerson_4 rfl rfl ?_
    refine aw_aload_n hO dX9_hasPerson_5 rfl rfl ?_
    refine gC_X9_15_25 hO dX9_hasPerson_6 rfl ?_
    refine aw_icmp_ge (tgt := 16) hO dX9_hasPerson_9 rfl rfl hv ⟨by omega, by omega⟩ (fun c9 => ?_) (fun c9 => ?_)
    · refine aw_iconst hO dX9_hasPerson_16 rfl ?_
      refine aw_zret hO dX9_hasPerson_17 (Or.inl rfl) ?_
      exact rI (by split <;> omega)
    · refine aw_iconst hO dX9_hasPerson_12 rfl ?_
      refine aw_goto (tgt := 17) hO dX9_hasPerson_13 rfl ?_
      refine aw_zret hO dX9_hasPerson_17 (Or.inr rfl) ?_
      exact rI (by split <;> omega)
theorem dX9_hasTrouble_0 : decode cX9_hasTrouble 0 = .ok (.iload_n 1, 1) := by decide +kernel
theorem dX9_hasTrouble_1 : decode cX9_hasTrouble 1 = .ok (.ifCond .lt 15, 3) := by decide +kernel
theorem dX9_hasTrouble_4 : decode cX9_hasTrouble 4 = .ok (.iload_n 1, 1) := by decide +kernel
theorem dX9_hasTrouble_5 : decode cX9_hasTrouble 5 = .ok (.aload_n 0, 1) := by decide +kernel
theorem dX9_hasTrouble_6 : decode cX9_hasTrouble 6 = .ok (.getfield 19, 3) := by decide +kernel
theorem dX9_hasTrouble_9 : decode cX9_hasTrouble 9 = .ok (.if_icmp .ge 7, 3) := by decide +kernel
theorem dX9_hasTrouble_12 : decode cX9_hasTrouble 12 = .ok (.iconst 1, 1) := by decide +kernel
theorem dX9_hasTrouble_13 : decode cX9_hasTrouble 13 = .ok (.goto 4, 3) := by decide +kernel
theorem dX9_hasTrouble_16 : decode cX9_hasTrouble 16 = .ok (.iconst 0, 1) := by decide +kernel
theorem dX9_hasTrouble_17 : decode cX9_hasTrouble 17 = .ok (.ireturn, 1) := by decide +kernel
set_option maxRecDepth 100000 in
theorem gC_X9_19_25 {Q : Option AV → Mm → Prop} {K : KT} {cc : ByteArray} {nL d : Nat} {ret : Option FieldType} {pc n : Nat} {ls : List (Option AV)} {st : List AV} {μ : Mm} (hO : KOk PC Q K cc RX9 nL d ret) (hd : decode cc pc = .ok (.getfield 19, 3)) (hn : pc + 3 = n) (kk : AW K n ls (vI (μ.1 25 2) :: st) μ) : AW K pc ls (vR 25 :: st) μ := aw_get (f := 2) hO hd hn okX9 (by decide) (lw_t1 84 rfl rfl) (by decide) rfl rfl rfl kk
set_option maxHeartbeats 4000000 in
set_option maxRecDepth 100000 in
theorem ctC_9_hasTrouble (μ : Mm) (hp : 0 ≤ μ.1 25 2 ∧ μ.1 25 2 ≤ 6) {v : Int} (hv : InR v) : CtI PC 0 yX9_hasTrouble cX9_hasTrouble 2 (some .boolean) [vR 25, vI v] μ (if 0 ≤ v ∧ v < μ.1 25 2 then 1 else 0) := by
  refine ct_intro [some (vR 25), some (vI v)] RX9 (by decide) rfl XCo rfl (Nat.le_of_ble_eq_true rfl) (fun K hO => ?_)
  refine aw_iload_n hO dX9_hasTrouble_0 rfl rfl ?_
  refine aw_if_lt (tgt := 16) hO dX9_hasTrouble_1 rfl rfl hv (fun c1 => ?_) (fun c1 => ?_)
  · refine aw_iconst hO dX9_hasTrouble_16 rfl ?_
    refine aw_zret hO dX9_hasTrouble_17 (Or.inl rfl) ?_
    exact rI (by split <;> omega)
  · refine aw_iload_n hO dX9_hasTrouble_4 rfl rfl ?_
    refine aw_aload_n hO dX9_hasTrouble_5 rfl rfl ?_
    refine gC_X9_19_25 hO dX9_hasTrouble_6 rfl ?_
    refine aw_icmp_ge (tgt := 16) hO dX9_hasTrouble_9 rfl rfl hv ⟨by omega, by omega⟩ (fun c9 => ?_) (fun c9 => ?_)
    · refine aw_iconst hO dX9_hasTrouble_16 rfl ?_
      refine aw_zret hO dX9_hasTrouble_17 (Or.inl rfl) ?_
      exact rI (by split <;> omega)
    · refine aw_iconst hO dX9_hasTrouble_12 rfl ?_
      refine aw_goto (tgt := 17) hO dX9_hasTrouble_13 rfl ?_
      refine aw_zret hO dX9_hasTrouble_17 (Or.inr rfl) ?_
      exact rI (by split <;> omega)
theorem dX9_allPersons_0 : decode cX9_allPersons 0 = .ok (.iconst 1, 1) := by decide +kernel
theorem dX9_allPersons_1 : decode cX9_allPersons 1 = .ok (.aload_n 0, 1) := by decide +kernel
theorem dX9_allPersons_2 : decode cX9_allPersons 2 = .ok (.getfield 15, 3) := by decide +kernel
theorem dX9_allPersons_5 : decode cX9_allPersons 5 = .ok (.ishl, 1) := by decide +kernel
theorem dX9_allPersons_6 : decode cX9_allPersons 6 = .ok (.iconst 1, 1) := by decide +kernel
theorem dX9_allPersons_7 : decode cX9_allPersons 7 = .ok (.isub, 1) := by decide +kernel
theorem dX9_allPersons_8 : decode cX9_allPersons 8 = .ok (.ireturn, 1) := by decide +kernel
set_option maxHeartbeats 4000000 in
set_option maxRecDepth 100000 in
theorem ctC_9_allPersons (μ : Mm)  : CtI PC 0 yX9_allPersons cX9_allPersons 1 (some .int) [vR 25] μ (bShl 1 (μ.1 25 1) - 1) := by
  refine ct_intro [some (vR 25)] RX9 (by decide) rfl XCo rfl (Nat.le_of_ble_eq_true rfl) (fun K hO => ?_)
  refine aw_iconst hO dX9_allPersons_0 rfl ?_
  refine aw_aload_n hO dX9_allPersons_1 rfl rfl ?_
  refine gC_X9_15_25 hO dX9_allPersons_2 rfl ?_
  refine aw_ishl hO dX9_allPersons_5 rfl ?_
  refine aw_iconst hO dX9_allPersons_6 rfl ?_
  refine aw_isub hO dX9_allPersons_7 rfl ?_
  refine aw_iret hO dX9_allPersons_8 ?_
  exact rI rfl
theorem dX9_allTroubles_0 : decode cX9_allTroubles 0 = .ok (.iconst 1, 1) := by decide +kernel
theorem dX9_allTroubles_1 : decode cX9_allTroubles 1 = .ok (.aload_n 0, 1) := by decide +kernel
theorem dX9_allTroubles_2 : decode cX9_allTroubles 2 = .ok (.getfield 19, 3) := by decide +kernel
theorem dX9_allTroubles_5 : decode cX9_allTroubles 5 = .ok (.ishl, 1) := by decide +kernel
theorem dX9_allTroubles_6 : decode cX9_allTroubles 6 = .ok (.iconst 1, 1) := by decide +kernel
theorem dX9_allTroubles_7 : decode cX9_allTroubles 7 = .ok (.isub, 1) := by decide +kernel
theorem dX9_allTroubles_8 : decode cX9_allTroubles 8 = .ok (.ireturn, 1) := by decide +kernel
set_option maxHeartbeats 4000000 in
set_option maxRecDepth 100000 in
theorem ctC_9_allTroubles (μ : Mm)  : CtI PC 0 yX9_allTroubles cX9_allTroubles 1 (some .int) [vR 25] μ (bShl 1 (μ.1 25 2) - 1) := by
  refine ct_intro [some (vR 25)] RX9 (by decide) rfl XCo rfl (Nat.le_of_ble_eq_true rfl) (fun K hO => ?_)
  refine aw_iconst hO dX9_allTroubles_0 rfl ?_
  refine aw_aload_n hO dX9_allTroubles_1 rfl rfl ?_
  refine gC_X9_19_25 hO dX9_allTroubles_2 rfl ?_
  refine aw_ishl hO dX9_allTroubles_5 rfl ?_
  refine aw_iconst hO dX9_allTroubles_6 rfl ?_
  refine aw_isub hO dX9_allTroubles_7 rfl ?_
  refine aw_iret hO dX9_allTroubles_8 ?_
  exact rI rfl
theorem dX9_liking_0 : decode cX9_liking 0 = .ok (.aload_n 0, 1) := by decide +kernel
theorem dX9_liking_1 : decode cX9_liking 1 = .ok (.getfield 11, 3) := by decide +kernel
theorem dX9_liking_4 : decode cX9_liking 4 = .ok (.iload_n 1, 1) := by decide +kernel
theorem dX9_liking_5 : decode cX9_liking 5 = .ok (.iaload, 1) := by decide +kernel
theorem dX9_liking_6 : decode cX9_liking 6 = .ok (.ireturn, 1) := by decide +kernel
set_option maxHeartbeats 4000000 in
set_option maxRecDepth 100000 in
theorem ctC_9_liking (μ : Mm) {k : Nat} (hk : k < 4) : CtI PC 0 yX9_liking cX9_liking 2 (some .int) [vR 25, vI ((k : Nat) : Int)] μ (μ.1 26 k) := by
  refine ct_intro [some (vR 25), some (vI ((k : Nat) : Int))] RX9 (by decide) rfl XCo rfl (Nat.le_of_ble_eq_true rfl) (fun K hO => ?_)
  refine aw_aload_n hO dX9_liking_0 rfl rfl ?_
  refine gC_X9_11_25 hO dX9_liking_1 rfl ?_
  refine aw_iload_n hO dX9_liking_4 rfl rfl ?_
  refine aw_ialdn (N := 48) (i := k) hO dX9_liking_5 rfl (by decide) rfl (by decide) rfl (by omega) ?_
  refine aw_iret hO dX9_liking_6 ?_
  exact rI rfl
theorem dX9_coins_0 : decode cX9_coins 0 = .ok (.aload_n 0, 1) := by decide +kernel
theorem dX9_coins_1 : decode cX9_coins 1 = .ok (.getfield 11, 3) := by decide +kernel
theorem dX9_coins_4 : decode cX9_coins 4 = .ok (.iconst 3, 1) := by decide +kernel
theorem dX9_coins_5 : decode cX9_coins 5 = .ok (.iaload, 1) := by decide +kernel
theorem dX9_coins_6 : decode cX9_coins 6 = .ok (.ireturn, 1) := by decide +kernel
set_option maxHeartbeats 4000000 in
set_option maxRecDepth 100000 in
theorem ctC_9_coins (μ : Mm)  : CtI PC 0 yX9_coins cX9_coins 1 (some .int) [vR 25] μ (μ.1 26 3) := by
  refine ct_intro [some (vR 25)] RX9 (by decide) rfl XCo rfl (Nat.le_of_ble_eq_true rfl) (fun K hO => ?_)
  refine aw_aload_n hO dX9_coins_0 rfl rfl ?_
  refine gC_X9_11_25 hO dX9_coins_1 rfl ?_
  refine aw_iconst hO dX9_coins_4 rfl ?_
  refine aw_ialdn (N := 48) (i := 3) hO dX9_coins_5 rfl (by decide) rfl (by decide) rfl (by decide) ?_
  refine aw_iret hO dX9_coins_6 ?_
  exact rI rfl
theorem dX9_trait_0 : decode cX9_trait 0 = .ok (.aload_n 0, 1) := by decide +kernel
theorem dX9_trait_1 : decode cX9_trait 1 = .ok (.getfield 11, 3) := by decide +kernel
theorem dX9_trait_4 : decode cX9_trait 4 = .ok (.iconst 1, 1) := by decide +kernel
theorem dX9_trait_5 : decode cX9_trait 5 = .ok (.iload_n 1, 1) := by decide +kernel
theorem dX9_trait_6 : decode cX9_trait 6 = .ok (.iadd, 1) := by decide +kernel
theorem dX9_trait_7 : decode cX9_trait 7 = .ok (.iconst 4, 1) := by decide +kernel
theorem dX9_trait_8 : decode cX9_trait 8 = .ok (.imul, 1) := by decide +kernel
theorem dX9_trait_9 : decode cX9_trait 9 = .ok (.iload_n 2, 1) := by decide +kernel
theorem dX9_trait_10 : decode cX9_trait 10 = .ok (.iadd, 1) := by decide +kernel
theorem dX9_trait_11 : decode cX9_trait 11 = .ok (.iaload, 1) := by decide +kernel
theorem dX9_trait_12 : decode cX9_trait 12 = .ok (.ireturn, 1) := by decide +kernel
set_option maxHeartbeats 4000000 in
set_option maxRecDepth 100000 in
theorem ctC_9_trait (μ : Mm) {p k : Nat} (hp : p < 6) (hk : k < 4) : CtI PC 0 yX9_trait cX9_trait 3 (some .int) [vR 25, vI ((p : Nat) : Int), vI ((k : Nat) : Int)] μ (μ.1 26 (4 + 4 * p + k)) := by
  refine ct_intro [some (vR 25), some (vI ((p : Nat) : Int)), some (vI ((k : Nat) : Int))] RX9 (by decide) rfl XCo rfl (Nat.le_of_ble_eq_true rfl) (fun K hO => ?_)
  refine aw_aload_n hO dX9_trait_0 rfl rfl ?_
  refine gC_X9_11_25 hO dX9_trait_1 rfl ?_
  refine aw_iconst hO dX9_trait_4 rfl ?_
  refine aw_iload_n hO dX9_trait_5 rfl rfl ?_
  refine aw_iadd hO dX9_trait_6 rfl ?_
  refine aw_iconst hO dX9_trait_7 rfl ?_
  refine aw_imul hO dX9_trait_8 rfl ?_
  refine aw_iload_n hO dX9_trait_9 rfl rfl ?_
  refine aw_iadd hO dX9_trait_10 rfl ?_
  refine aw_ialdn (N := 48) (i := (4 + 4 * p + k)) hO dX9_trait_11 rfl (by decide) rfl (by decide) (by omega) (by omega) ?_
  refine aw_iret hO dX9_trait_12 ?_
  exact rI rfl
theorem dX9_door_0 : decode cX9_door 0 = .ok (.aload_n 0, 1) := by decide +kernel
theorem dX9_door_1 : decode cX9_door 1 = .ok (.getfield 11, 3) := by decide +kernel
theorem dX9_door_4 : decode cX9_door 4 = .ok (.iconst 1, 1) := by decide +kernel
theorem dX9_door_5 : decode cX9_door 5 = .ok (.iload_n 1, 1) := by decide +kernel
theorem dX9_door_6 : decode cX9_door 6 = .ok (.iadd, 1) := by decide +kernel
theorem dX9_door_7 : decode cX9_door 7 = .ok (.iconst 4, 1) := by decide +kernel
theorem dX9_door_8 : decode cX9_door 8 = .ok (.imul, 1) := by decide +kernel
theorem dX9_door_9 : decode cX9_door 9 = .ok (.iconst 3, 1) := by decide +kernel
theorem dX9_door_10 : decode cX9_door 10 = .ok (.iadd, 1) := by decide +kernel
theorem dX9_door_11 : decode cX9_door 11 = .ok (.iaload, 1) := by decide +kernel
theorem dX9_door_12 : decode cX9_door 12 = .ok (.ireturn, 1) := by decide +kernel
set_option maxHeartbeats 4000000 in
set_option maxRecDepth 100000 in
theorem ctC_9_door (μ : Mm) {p : Nat} (hp : p < 6) : CtI PC 0 yX9_door cX9_door 2 (some .int) [vR 25, vI ((p : Nat) : Int)] μ (μ.1 26 (4 + 4 * p + 3)) := by
  refine ct_intro [some (vR 25), some (vI ((p : Nat) : Int))] RX9 (by decide) rfl XCo rfl (Nat.le_of_ble_eq_true rfl) (fun K hO => ?_)
  refine aw_aload_n hO dX9_door_0 rfl rfl ?_
  refine gC_X9_11_25 hO dX9_door_1 rfl ?_
  refine aw_iconst hO dX9_door_4 rfl ?_
  refine aw_iload_n hO dX9_door_5 rfl rfl ?_
  refine aw_iadd hO dX9_door_6 rfl ?_
  refine aw_iconst hO dX9_door_7 rfl ?_
  refine aw_imul hO dX9_door_8 rfl ?_
  refine aw_iconst hO dX9_door_9 rfl ?_
  refine aw_iadd hO dX9_door_10 rfl ?_
  refine aw_ialdn (N := 48) (i := (4 + 4 * p + 3)) hO dX9_door_11 rfl (by decide) rfl (by decide) (by omega) (by omega) ?_
  refine aw_iret hO dX9_door_12 ?_
  exact rI rfl
theorem dX9_asksFor_0 : decode cX9_asksFor 0 = .ok (.aload_n 0, 1) := by decide +kernel
theorem dX9_asksFor_1 : decode cX9_asksFor 1 = .ok (.getfield 11, 3) := by decide +kernel
theorem dX9_asksFor_4 : decode cX9_asksFor 4 = .ok (.bipush 7, 2) := by decide +kernel
theorem dX9_asksFor_6 : decode cX9_asksFor 6 = .ok (.iload_n 1, 1) := by decide +kernel
theorem dX9_asksFor_7 : decode cX9_asksFor 7 = .ok (.iadd, 1) := by decide +kernel
theorem dX9_asksFor_8 : decode cX9_asksFor 8 = .ok (.iconst 4, 1) := by decide +kernel
theorem dX9_asksFor_9 : decode cX9_asksFor 9 = .ok (.imul, 1) := by decide +kernel
theorem dX9_asksFor_10 : decode cX9_asksFor 10 = .ok (.iaload, 1) := by decide +kernel
theorem dX9_asksFor_11 : decode cX9_asksFor 11 = .ok (.ireturn, 1) := by decide +kernel
set_option maxHeartbeats 4000000 in
set_option maxRecDepth 100000 in
theorem ctC_9_asksFor (μ : Mm) {p : Nat} (hp : p < 5) : CtI PC 0 yX9_asksFor cX9_asksFor 2 (some .int) [vR 25, vI ((p : Nat) : Int)] μ (μ.1 26 (28 + 4 * p)) := by
  refine ct_intro [some (vR 25), some (vI ((p : Nat) : Int))] RX9 (by decide) rfl XCo rfl (Nat.le_of_ble_eq_true rfl) (fun K hO => ?_)
  refine aw_aload_n hO dX9_asksFor_0 rfl rfl ?_
  refine gC_X9_11_25 hO dX9_asksFor_1 rfl ?_
  refine aw_bipush hO dX9_asksFor_4 rfl (by decide) (by decide) ?_
  refine aw_iload_n hO dX9_asksFor_6 rfl rfl ?_
  refine aw_iadd hO dX9_asksFor_7 rfl ?_
  refine aw_iconst hO dX9_asksFor_8 rfl ?_
  refine aw_imul hO dX9_asksFor_9 rfl ?_
  refine aw_ialdn (N := 48) (i := (28 + 4 * p)) hO dX9_asksFor_10 rfl (by decide) rfl (by decide) (by omega) (by omega) ?_
  refine aw_iret hO dX9_asksFor_11 ?_
  exact rI rfl
theorem dX9_asksAtFirst_0 : decode cX9_asksAtFirst 0 = .ok (.aload_n 0, 1) := by decide +kernel
theorem dX9_asksAtFirst_1 : decode cX9_asksAtFirst 1 = .ok (.getfield 11, 3) := by decide +kernel
theorem dX9_asksAtFirst_4 : decode cX9_asksAtFirst 4 = .ok (.bipush 7, 2) := by decide +kernel
theorem dX9_asksAtFirst_6 : decode cX9_asksAtFirst 6 = .ok (.iload_n 1, 1) := by decide +kernel
theorem dX9_asksAtFirst_7 : decode cX9_asksAtFirst 7 = .ok (.iadd, 1) := by decide +kernel
theorem dX9_asksAtFirst_8 : decode cX9_asksAtFirst 8 = .ok (.iconst 4, 1) := by decide +kernel
theorem dX9_asksAtFirst_9 : decode cX9_asksAtFirst 9 = .ok (.imul, 1) := by decide +kernel
theorem dX9_asksAtFirst_10 : decode cX9_asksAtFirst 10 = .ok (.iconst 1, 1) := by decide +kernel
theorem dX9_asksAtFirst_11 : decode cX9_asksAtFirst 11 = .ok (.iadd, 1) := by decide +kernel
theorem dX9_asksAtFirst_12 : decode cX9_asksAtFirst 12 = .ok (.iaload, 1) := by decide +kernel
theorem dX9_asksAtFirst_13 : decode cX9_asksAtFirst 13 = .ok (.ireturn, 1) := by decide +kernel
set_option maxHeartbeats 4000000 in
set_option maxRecDepth 100000 in
theorem ctC_9_asksAtFirst (μ : Mm) {p : Nat} (hp : p < 5) : CtI PC 0 yX9_asksAtFirst cX9_asksAtFirst 2 (some .int) [vR 25, vI ((p : Nat) : Int)] μ (μ.1 26 (28 + 4 * p + 1)) := by
  refine ct_intro [some (vR 25), some (vI ((p : Nat) : Int))] RX9 (by decide) rfl XCo rfl (Nat.le_of_ble_eq_true rfl) (fun K hO => ?_)
  refine aw_aload_n hO dX9_asksAtFirst_0 rfl rfl ?_
  refine gC_X9_11_25 hO dX9_asksAtFirst_1 rfl ?_
  refine aw_bipush hO dX9_asksAtFirst_4 rfl (by decide) (by decide) ?_
  refine aw_iload_n hO dX9_asksAtFirst_6 rfl rfl ?_
  refine aw_iadd hO dX9_asksAtFirst_7 rfl ?_
  refine aw_iconst hO dX9_asksAtFirst_8 rfl ?_
  refine aw_imul hO dX9_asksAtFirst_9 rfl ?_
  refine aw_iconst hO dX9_asksAtFirst_10 rfl ?_
  refine aw_iadd hO dX9_asksAtFirst_11 rfl ?_
  refine aw_ialdn (N := 48) (i := (28 + 4 * p + 1)) hO dX9_asksAtFirst_12 rfl (by decide) rfl (by decide) (by omega) (by omega) ?_
  refine aw_iret hO dX9_asksAtFirst_13 ?_
  exact rI rfl
theorem dX9_gravity_0 : decode cX9_gravity 0 = .ok (.aload_n 0, 1) := by decide +kernel
theorem dX9_gravity_1 : decode cX9_gravity 1 = .ok (.getfield 11, 3) := by decide +kernel
theorem dX9_gravity_4 : decode cX9_gravity 4 = .ok (.bipush 7, 2) := by decide +kernel
theorem dX9_gravity_6 : decode cX9_gravity 6 = .ok (.iload_n 1, 1) := by decide +kernel
theorem dX9_gravity_7 : decode cX9_gravity 7 = .ok (.iadd, 1) := by decide +kernel
theorem dX9_gravity_8 : decode cX9_gravity 8 = .ok (.iconst 4, 1) := by decide +kernel
theorem dX9_gravity_9 : decode cX9_gravity 9 = .ok (.imul, 1) := by decide +kernel
theorem dX9_gravity_10 : decode cX9_gravity 10 = .ok (.iconst 2, 1) := by decide +kernel
theorem dX9_gravity_11 : decode cX9_gravity 11 = .ok (.iadd, 1) := by decide +kernel
theorem dX9_gravity_12 : decode cX9_gravity 12 = .ok (.iaload, 1) := by decide +kernel
theorem dX9_gravity_13 : decode cX9_gravity 13 = .ok (.ireturn, 1) := by decide +kernel
set_option maxHeartbeats 4000000 in
set_option maxRecDepth 100000 in
theorem ctC_9_gravity (μ : Mm) {p : Nat} (hp : p < 5) : CtI PC 0 yX9_gravity cX9_gravity 2 (some .int) [vR 25, vI ((p : Nat) : Int)] μ (μ.1 26 (28 + 4 * p + 2)) := by
  refine ct_intro [some (vR 25), some (vI ((p : Nat) : Int))] RX9 (by decide) rfl XCo rfl (Nat.le_of_ble_eq_true rfl) (fun K hO => ?_)
  refine aw_aload_n hO dX9_gravity_0 rfl rfl ?_
  refine gC_X9_11_25 hO dX9_gravity_1 rfl ?_
  refine aw_bipush hO dX9_gravity_4 rfl (by decide) (by decide) ?_
  refine aw_iload_n hO dX9_gravity_6 rfl rfl ?_
  refine aw_iadd hO dX9_gravity_7 rfl ?_
  refine aw_iconst hO dX9_gravity_8 rfl ?_
  refine aw_imul hO dX9_gravity_9 rfl ?_
  refine aw_iconst hO dX9_gravity_10 rfl ?_
  refine aw_iadd hO dX9_gravity_11 rfl ?_
  refine aw_ialdn (N := 48) (i := (28 + 4 * p + 2)) hO dX9_gravity_12 rfl (by decide) rfl (by decide) (by omega) (by omega) ?_
  refine aw_iret hO dX9_gravity_13 ?_
  exact rI rfl
