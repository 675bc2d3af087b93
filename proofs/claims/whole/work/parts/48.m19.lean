
/-! ## likings -/
def tapM (μ : Mm) (L : Nat) (p : Nat) : Int := clampI 99 ((L : Int) / 100 * μ.1 15 (4 * p + 0) + (L : Int) / 10 % 10 * μ.1 15 (4 * p + 1) - (L : Int) % 10 * μ.1 15 (4 * p + 2))
def tpkM (μ : Mm) (s : Int) (L : Nat) : Int := best (fun p => hasB s p) (tapM μ L) (μ.1 0 25).toNat
theorem tpk_rng (μ : Mm) (s : Int) (L : Nat) : tpkM μ s L = -1 ∨ (0 ≤ tpkM μ s L ∧ tpkM μ s L < ((μ.1 0 25).toNat : Int)) := best_rng _ _ _
def likK (μ : Mm) (L : Nat) (k : Nat) : Bool := decide ((if tpkM μ (μ.1 21 k) L = μ.1 22 k then (1 : Int) else 0) = μ.1 23 k)
def likB (μ : Mm) (L : Nat) : Bool := allB (likK μ L) (μ.1 0 41).toNat
/-- what is given is in its ranges -/
def NoteOK (μ : Mm) : Prop := (0 ≤ μ.1 0 41 ∧ μ.1 0 41 ≤ 10) ∧ ∀ k, k < 10 → (0 ≤ μ.1 21 k ∧ μ.1 21 k ≤ 63) ∧ (0 ≤ μ.1 22 k ∧ μ.1 22 k ≤ 5) ∧ (0 ≤ μ.1 23 k ∧ μ.1 23 k ≤ 1)
theorem tap_in {μ : Mm} (h : MB μ) {L p : Nat} (hL : L < 1000) (hp : p < 6) : (0 ≤ (L : Int) / 100 * μ.1 15 (4 * p + 0) ∧ (L : Int) / 100 * μ.1 15 (4 * p + 0) ≤ 891) ∧ (0 ≤ (L : Int) / 10 % 10 * μ.1 15 (4 * p + 1) ∧ (L : Int) / 10 % 10 * μ.1 15 (4 * p + 1) ≤ 891) ∧ (0 ≤ (L : Int) % 10 * μ.1 15 (4 * p + 2) ∧ (L : Int) % 10 * μ.1 15 (4 * p + 2) ≤ 891) := by
  have h0 := h.tra hp (k := 0) (by omega)
  have h1 := h.tra hp (k := 1) (by omega)
  have h2 := h.tra hp (k := 2) (by omega)
  exact ⟨mul81 (by omega) (by omega) h0.1 h0.2, mul81 (by omega) (by omega) h1.1 h1.2, mul81 (by omega) (by omega) h2.1 h2.2⟩
theorem dX12_toldAppeal_0 : decode cX12_toldAppeal 0 = .ok (.iload_n 2, 1) := by decide +kernel
theorem dX12_toldAppeal_1 : decode cX12_toldAppeal 1 = .ok (.bipush 100, 2) := by decide +kernel
theorem dX12_toldAppeal_3 : decode cX12_toldAppeal 3 = .ok (.idiv, 1) := by decide +kernel
theorem dX12_toldAppeal_4 : decode cX12_toldAppeal 4 = .ok (.aload_n 0, 1) := by decide +kernel
theorem dX12_toldAppeal_5 : decode cX12_toldAppeal 5 = .ok (.iload_n 1, 1) := by decide +kernel
theorem dX12_toldAppeal_6 : decode cX12_toldAppeal 6 = .ok (.iconst 0, 1) := by decide +kernel
theorem dX12_toldAppeal_7 : decode cX12_toldAppeal 7 = .ok (.invokevirtual 264, 3) := by decide +kernel
theorem dX12_toldAppeal_10 : decode cX12_toldAppeal 10 = .ok (.imul, 1) := by decide +kernel
theorem dX12_toldAppeal_11 : decode cX12_toldAppeal 11 = .ok (.iload_n 2, 1) := by decide +kernel
theorem dX12_toldAppeal_12 : decode cX12_toldAppeal 12 = .ok (.bipush 10, 2) := by decide +kernel
theorem dX12_toldAppeal_14 : decode cX12_toldAppeal 14 = .ok (.idiv, 1) := by decide +kernel
theorem dX12_toldAppeal_15 : decode cX12_toldAppeal 15 = .ok (.bipush 10, 2) := by decide +kernel
theorem dX12_toldAppeal_17 : decode cX12_toldAppeal 17 = .ok (.irem, 1) := by decide +kernel
theorem dX12_toldAppeal_18 : decode cX12_toldAppeal 18 = .ok (.aload_n 0, 1) := by decide +kernel
theorem dX12_toldAppeal_19 : decode cX12_toldAppeal 19 = .ok (.iload_n 1, 1) := by decide +kernel
theorem dX12_toldAppeal_20 : decode cX12_toldAppeal 20 = .ok (.iconst 1, 1) := by decide +kernel
theorem dX12_toldAppeal_21 : decode cX12_toldAppeal 21 = .ok (.invokevirtual 264, 3) := by decide +kernel
theorem dX12_toldAppeal_24 : decode cX12_toldAppeal 24 = .ok (.imul, 1) := by decide +kernel
theorem dX12_toldAppeal_25 : decode cX12_toldAppeal 25 = .ok (.iadd, 1) := by decide +kernel
theorem dX12_toldAppeal_26 : decode cX12_toldAppeal 26 = .ok (.iload_n 2, 1) := by decide +kernel
theorem dX12_toldAppeal_27 : decode cX12_toldAppeal 27 = .ok (.bipush 10, 2) := by decide +kernel
theorem dX12_toldAppeal_29 : decode cX12_toldAppeal 29 = .ok (.irem, 1) := by decide +kernel
theorem dX12_toldAppeal_30 : decode cX12_toldAppeal 30 = .ok (.aload_n 0, 1) := by decide +kernel
theorem dX12_toldAppeal_31 : decode cX12_toldAppeal 31 = .ok (.iload_n 1, 1) := by decide +kernel
theorem dX12_toldAppeal_32 : decode cX12_toldAppeal 32 = .ok (.iconst 2, 1) := by decide +kernel
theorem dX12_toldAppeal_33 : decode cX12_toldAppeal 33 = .ok (.invokevirtual 264, 3) := by decide +kernel
theorem dX12_toldAppeal_36 : decode cX12_toldAppeal 36 = .ok (.imul, 1) := by decide +kernel
theorem dX12_toldAppeal_37 : decode cX12_toldAppeal 37 = .ok (.isub, 1) := by decide +kernel
theorem dX12_toldAppeal_38 : decode cX12_toldAppeal 38 = .ok (.invokestatic 277, 3) := by decide +kernel
theorem dX12_toldAppeal_41 : decode cX12_toldAppeal 41 = .ok (.ireturn, 1) := by decide +kernel
set_option maxHeartbeats 4000000 in
set_option maxRecDepth 100000 in
theorem ctM_toldAppeal (μ : Mm) (h : MB μ) {p L : Nat} (hp : p < 6) (hL : L < 1000) : CtI PM 2 yX12_toldAppeal cX12_toldAppeal 3 (some .int) [vR 0, vI ((p : Nat) : Int), vI ((L : Nat) : Int)] μ (tapM μ L p) := by
  refine ct_intro [some (vR 0), some (vI ((p : Nat) : Int)), some (vI ((L : Nat) : Int))] RX12 (by decide) rfl XM rfl (Nat.le_of_ble_eq_true rfl) (fun K hO => ?_)
  have hti := tap_in h hL hp
  refine aw_iload_n hO dX12_toldAppeal_0 rfl rfl ?_
  refine aw_bipush hO dX12_toldAppeal_1 rfl (by decide) (by decide) ?_
  refine aw_idiv hO dX12_toldAppeal_3 rfl (by omega) (by omega) (by omega) (by omega) ?_
  refine aw_aload_n hO dX12_toldAppeal_4 rfl rfl ?_
  refine aw_iload_n hO dX12_toldAppeal_5 rfl rfl ?_
  refine aw_iconst hO dX12_toldAppeal_6 rfl ?_
  refine aw_callVI (as := [vI ((p : Nat) : Int), vI 0]) (st := [vI (((L : Nat) : Int) / 100)]) hO dX12_toldAppeal_7 rfl (lw_t7 25 rfl rfl) kX12_of (T := TX12) rfl (by decide) rfl (ctM_of μ (p := p) (k := 0) (by omega) (by omega)) (by decide) rfl rfl rfl (Nat.le_of_ble_eq_true rfl) ?_
  refine aw_imul hO dX12_toldAppeal_10 rfl ?_
  refine aw_iload_n hO dX12_toldAppeal_11 rfl rfl ?_
  refine aw_bipush hO dX12_toldAppeal_12 rfl (by decide) (by decide) ?_
  refine aw_idiv hO dX12_toldAppeal_14 rfl (by omega) (by omega) (by omega) (by omega) ?_
  refine aw_bipush hO dX12_toldAppeal_15 rfl (by decide) (by decide) ?_
  refine aw_irem hO dX12_toldAppeal_17 rfl (by omega) (by omega) (by omega) (by omega) ?_
  refine aw_aload_n hO dX12_toldAppeal_18 rfl rfl ?_
  refine aw_iload_n hO dX12_toldAppeal_19 rfl rfl ?_
  refine aw_iconst hO dX12_toldAppeal_20 rfl ?_
  refine aw_callVI (as := [vI ((p : Nat) : Int), vI 1]) (st := [vI ((((L : Nat) : Int) / 10) % 10), vI ((((L : Nat) : Int) / 100) * (μ.1 15 (4 * p + 0)))]) hO dX12_toldAppeal_21 rfl (lw_t7 25 rfl rfl) kX12_of (T := TX12) rfl (by decide) rfl (ctM_of μ (p := p) (k := 1) (by omega) (by omega)) (by decide) rfl rfl rfl (Nat.le_of_ble_eq_true rfl) ?_
  refine aw_imul hO dX12_toldAppeal_24 rfl ?_
  refine aw_iadd hO dX12_toldAppeal_25 rfl ?_
  refine aw_iload_n hO dX12_toldAppeal_26 rfl rfl ?_
  refine aw_bipush hO dX12_toldAppeal_27 rfl (by decide) (by decide) ?_
  refine aw_irem hO dX12_toldAppeal_29 rfl (by omega) (by omega) (by omega) (by omega) ?_
  refine aw_aload_n hO dX12_toldAppeal_30 rfl rfl ?_
  refine aw_iload_n hO dX12_toldAppeal_31 rfl rfl ?_
  refine aw_iconst hO dX12_toldAppeal_32 rfl ?_
  refine aw_callVI (as := [vI ((p : Nat) : Int), vI 2]) (st := [vI (((L : Nat) : Int) % 10), vI (((((L : Nat) : Int) / 100) * (μ.1 15 (4 * p + 0))) + (((((L : Nat) : Int) / 10) % 10) * (μ.1 15 (4 * p + 1))))]) hO dX12_toldAppeal_33 rfl (lw_t7 25 rfl rfl) kX12_of (T := TX12) rfl (by decide) rfl (ctM_of μ (p := p) (k := 2) (by omega) (by omega)) (by decide) rfl rfl rfl (Nat.le_of_ble_eq_true rfl) ?_
  refine aw_imul hO dX12_toldAppeal_36 rfl ?_
  refine aw_isub hO dX12_toldAppeal_37 rfl ?_
  refine aw_callSI (as := [vI ((((((L : Nat) : Int) / 100) * (μ.1 15 (4 * p + 0))) + (((((L : Nat) : Int) / 10) % 10) * (μ.1 15 (4 * p + 1)))) - ((((L : Nat) : Int) % 10) * (μ.1 15 (4 * p + 2))))]) (st := []) hO dX12_toldAppeal_38 rfl (lw_t7 138 rfl rfl) kX12_held (ctM_held μ (v := ((((((L : Nat) : Int) / 100) * (μ.1 15 (4 * p + 0))) + (((((L : Nat) : Int) / 10) % 10) * (μ.1 15 (4 * p + 1)))) - ((((L : Nat) : Int) % 10) * (μ.1 15 (4 * p + 2))))) ⟨by omega, by omega⟩) (by decide) rfl rfl rfl (Nat.le_of_ble_eq_true rfl) ?_
  refine aw_iret hO dX12_toldAppeal_41 ?_
  exact rI rfl
theorem dX12_toldPick_0 : decode cX12_toldPick 0 = .ok (.iconst (-1), 1) := by decide +kernel
theorem dX12_toldPick_1 : decode cX12_toldPick 1 = .ok (.istore_n 3, 1) := by decide +kernel
theorem dX12_toldPick_2 : decode cX12_toldPick 2 = .ok (.iconst 0, 1) := by decide +kernel
theorem dX12_toldPick_3 : decode cX12_toldPick 3 = .ok (.istore 4, 2) := by decide +kernel
theorem dX12_toldPick_5 : decode cX12_toldPick 5 = .ok (.iload 4, 2) := by decide +kernel
theorem dX12_toldPick_7 : decode cX12_toldPick 7 = .ok (.aload_n 0, 1) := by decide +kernel
theorem dX12_toldPick_8 : decode cX12_toldPick 8 = .ok (.getfield 242, 3) := by decide +kernel
theorem dX12_toldPick_11 : decode cX12_toldPick 11 = .ok (.if_icmp .ge 46, 3) := by decide +kernel
theorem dX12_toldPick_14 : decode cX12_toldPick 14 = .ok (.iload_n 1, 1) := by decide +kernel
theorem dX12_toldPick_15 : decode cX12_toldPick 15 = .ok (.iload 4, 2) := by decide +kernel
theorem dX12_toldPick_17 : decode cX12_toldPick 17 = .ok (.invokestatic 216, 3) := by decide +kernel
theorem dX12_toldPick_20 : decode cX12_toldPick 20 = .ok (.ifCond .eq 29, 3) := by decide +kernel
theorem dX12_toldPick_23 : decode cX12_toldPick 23 = .ok (.iload_n 3, 1) := by decide +kernel
theorem dX12_toldPick_24 : decode cX12_toldPick 24 = .ok (.iconst (-1), 1) := by decide +kernel
theorem dX12_toldPick_25 : decode cX12_toldPick 25 = .ok (.if_icmp .eq 19, 3) := by decide +kernel
theorem dX12_toldPick_28 : decode cX12_toldPick 28 = .ok (.aload_n 0, 1) := by decide +kernel
theorem dX12_toldPick_29 : decode cX12_toldPick 29 = .ok (.iload 4, 2) := by decide +kernel
theorem dX12_toldPick_31 : decode cX12_toldPick 31 = .ok (.iload_n 2, 1) := by decide +kernel
theorem dX12_toldPick_32 : decode cX12_toldPick 32 = .ok (.invokevirtual 378, 3) := by decide +kernel
theorem dX12_toldPick_35 : decode cX12_toldPick 35 = .ok (.aload_n 0, 1) := by decide +kernel
theorem dX12_toldPick_36 : decode cX12_toldPick 36 = .ok (.iload_n 3, 1) := by decide +kernel
theorem dX12_toldPick_37 : decode cX12_toldPick 37 = .ok (.iload_n 2, 1) := by decide +kernel
theorem dX12_toldPick_38 : decode cX12_toldPick 38 = .ok (.invokevirtual 378, 3) := by decide +kernel
theorem dX12_toldPick_41 : decode cX12_toldPick 41 = .ok (.if_icmp .le 8, 3) := by decide +kernel
theorem dX12_toldPick_44 : decode cX12_toldPick 44 = .ok (.iload 4, 2) := by decide +kernel
theorem dX12_toldPick_46 : decode cX12_toldPick 46 = .ok (.goto 4, 3) := by decide +kernel
theorem dX12_toldPick_49 : decode cX12_toldPick 49 = .ok (.iload_n 3, 1) := by decide +kernel
theorem dX12_toldPick_50 : decode cX12_toldPick 50 = .ok (.istore_n 3, 1) := by decide +kernel
theorem dX12_toldPick_51 : decode cX12_toldPick 51 = .ok (.iinc 4 1, 3) := by decide +kernel
theorem dX12_toldPick_54 : decode cX12_toldPick 54 = .ok (.goto (-49), 3) := by decide +kernel
theorem dX12_toldPick_57 : decode cX12_toldPick 57 = .ok (.iload_n 3, 1) := by decide +kernel
theorem dX12_toldPick_58 : decode cX12_toldPick 58 = .ok (.ireturn, 1) := by decide +kernel
set_option maxHeartbeats 4000000 in
set_option maxRecDepth 100000 in
theorem ctM_toldPick (μ : Mm) (h : MB μ) (s : Int) {L : Nat} (hL : L < 1000) : CtI PM 3 yX12_toldPick cX12_toldPick 5 (some .int) [vR 0, vI s, vI ((L : Nat) : Int)] μ (tpkM μ s L) := by
  refine ct_intro [some (vR 0), some (vI s), some (vI ((L : Nat) : Int)), none, none] RX12 (by decide) rfl XM rfl (Nat.le_of_ble_eq_true rfl) (fun K hO => ?_)
  have hnp := h.np
  have lp : ∀ (c : Nat) (p : Nat) (b : Int), ((p : Int) + c = μ.1 0 25) → (b = best (fun p => hasB s p) (tapM μ L) p) → AW K 5 [some (vR 0), some (vI s), some (vI ((L : Nat) : Int)), some (vI b), some (vI ((p : Nat) : Int))] [] μ := by
    intro c
    induction c with
    | zero =>
      intro p b hp hb
      have hbr := best_rng (fun p => hasB s p) (tapM μ L) p
      rw [← hb] at hbr
      refine aw_iload hO dX12_toldPick_5 rfl rfl ?_
      refine aw_aload_n hO dX12_toldPick_7 rfl rfl ?_
      refine gM_persons hO dX12_toldPick_8 rfl ?_
      refine aw_icmp_ge (tgt := 57) hO dX12_toldPick_11 rfl rfl (inRn (by omega)) ⟨by omega, by omega⟩ (fun c11 => ?_) (fun c11 => ?_)
      · refine aw_iload_n hO dX12_toldPick_57 rfl rfl ?_
        refine aw_iret hO dX12_toldPick_58 ?_
        exact rI (by unfold tpkM; rw [hb, show (μ.1 0 25).toNat = p by omega])
      · exact absurd c11 (by omega)
    | succ c ih =>
      intro p b hp hb
      have hbr := best_rng (fun p => hasB s p) (tapM μ L) p
      rw [← hb] at hbr
      refine aw_iload hO dX12_toldPick_5 rfl rfl ?_
      refine aw_aload_n hO dX12_toldPick_7 rfl rfl ?_
      refine gM_persons hO dX12_toldPick_8 rfl ?_
      refine aw_icmp_ge (tgt := 57) hO dX12_toldPick_11 rfl rfl (inRn (by omega)) ⟨by omega, by omega⟩ (fun c11 => ?_) (fun c11 => ?_)
      · exact absurd c11 (by omega)
      · refine aw_iload_n hO dX12_toldPick_14 rfl rfl ?_
        refine aw_iload hO dX12_toldPick_15 rfl rfl ?_
        refine aw_callSI (as := [vI s, vI ((p : Nat) : Int)]) (st := []) hO dX12_toldPick_17 rfl (lw_t6 155 rfl rfl) kX12_has (ctM_has μ s p) (by decide) rfl rfl rfl (Nat.le_of_ble_eq_true rfl) ?_
        refine aw_ifz_eq (tgt := 49) hO dX12_toldPick_20 rfl rfl (fun c20 => ?_) (fun c20 => ?_)
        · refine aw_iload_n hO dX12_toldPick_49 rfl rfl ?_
          refine aw_istore_n (ls' := [some (vR 0), some (vI s), some (vI ((L : Nat) : Int)), some (vI b), some (vI ((p : Nat) : Int))]) hO dX12_toldPick_50 rfl (Nat.le_of_ble_eq_true rfl) rfl rfl ?_
          refine aw_iinc (ls' := [some (vR 0), some (vI s), some (vI ((L : Nat) : Int)), some (vI b), some (vI (((p : Nat) : Int) + 1))]) hO dX12_toldPick_51 rfl rfl rfl rfl ?_
          refine aw_lsq (ls' := [some (vR 0), some (vI s), some (vI ((L : Nat) : Int)), some (vI b), some (vI (((p + 1) : Nat) : Int))]) rfl ?_
          refine aw_goto (tgt := 5) hO dX12_toldPick_54 rfl ?_
          refine aw_lsq (ls' := [some (vR 0), some (vI s), some (vI ((L : Nat) : Int)), some (vI b), some (vI (((p + 1) : Nat) : Int))]) rfl ?_
          exact ih (p + 1) b (by omega) (by rw [best_succ, if_neg (fun q => c20 q.1)]; exact hb)
        · refine aw_iload_n hO dX12_toldPick_23 rfl rfl ?_
          refine aw_iconst hO dX12_toldPick_24 rfl ?_
          refine aw_icmp_eq (tgt := 44) hO dX12_toldPick_25 rfl rfl ⟨by omega, by omega⟩ (inRlit _) (fun c25 => ?_) (fun c25 => ?_)
          · refine aw_iload hO dX12_toldPick_44 rfl rfl ?_
            refine aw_goto (tgt := 50) hO dX12_toldPick_46 rfl ?_
            refine aw_istore_n (ls' := [some (vR 0), some (vI s), some (vI ((L : Nat) : Int)), some (vI ((p : Nat) : Int)), some (vI ((p : Nat) : Int))]) hO dX12_toldPick_50 rfl (Nat.le_of_ble_eq_true rfl) rfl rfl ?_
            refine aw_iinc (ls' := [some (vR 0), some (vI s), some (vI ((L : Nat) : Int)), some (vI ((p : Nat) : Int)), some (vI (((p : Nat) : Int) + 1))]) hO dX12_toldPick_51 rfl rfl rfl rfl ?_
            refine aw_lsq (ls' := [some (vR 0), some (vI s), some (vI ((L : Nat) : Int)), some (vI ((p : Nat) : Int)), some (vI (((p + 1) : Nat) : Int))]) rfl ?_
            refine aw_goto (tgt := 5) hO dX12_toldPick_54 rfl ?_
            refine aw_lsq (ls' := [some (vR 0), some (vI s), some (vI ((L : Nat) : Int)), some (vI ((p : Nat) : Int)), some (vI (((p + 1) : Nat) : Int))]) rfl ?_
            exact ih (p + 1) (p : Int) (by omega) (by rw [best_succ, if_pos ⟨c20, Or.inl (by rw [← hb]; exact c25)⟩])
          · refine aw_aload_n hO dX12_toldPick_28 rfl rfl ?_
            refine aw_iload hO dX12_toldPick_29 rfl rfl ?_
            refine aw_iload_n hO dX12_toldPick_31 rfl rfl ?_
            refine aw_callVI (as := [vI ((p : Nat) : Int), vI ((L : Nat) : Int)]) (st := []) hO dX12_toldPick_32 rfl (lw_t7 237 rfl rfl) kX12_toldAppeal (T := TX12) rfl (by decide) rfl (ctM_toldAppeal μ h (p := p) (L := L) (by omega) hL) (by decide) rfl rfl rfl (Nat.le_of_ble_eq_true rfl) ?_
            have q1 : -99 ≤ tapM μ L p ∧ tapM μ L p ≤ 99 := clamp_R
            refine aw_aload_n hO dX12_toldPick_35 rfl rfl ?_
            refine aw_iload_n hO dX12_toldPick_36 rfl rfl ?_
            refine aw_iload_n hO dX12_toldPick_37 rfl rfl ?_
            refine aw_stq (st' := [vI ((L : Nat) : Int), vI ((b.toNat : Nat) : Int), vR 0, vI (tapM μ L p)]) (by rw [Int.toNat_of_nonneg (by omega)]) ?_
            refine aw_callVI (as := [vI ((b.toNat : Nat) : Int), vI ((L : Nat) : Int)]) (st := [vI (tapM μ L p)]) hO dX12_toldPick_38 rfl (lw_t7 237 rfl rfl) kX12_toldAppeal (T := TX12) rfl (by decide) rfl (ctM_toldAppeal μ h (p := b.toNat) (L := L) (by omega) hL) (by decide) rfl rfl rfl (Nat.le_of_ble_eq_true rfl) ?_
            have q2 : -99 ≤ tapM μ L b.toNat ∧ tapM μ L b.toNat ≤ 99 := clamp_R
            refine aw_icmp_le (tgt := 49) hO dX12_toldPick_41 rfl rfl ⟨by omega, by omega⟩ ⟨by omega, by omega⟩ (fun c41 => ?_) (fun c41 => ?_)
            · refine aw_iload_n hO dX12_toldPick_49 rfl rfl ?_
              refine aw_istore_n (ls' := [some (vR 0), some (vI s), some (vI ((L : Nat) : Int)), some (vI b), some (vI ((p : Nat) : Int))]) hO dX12_toldPick_50 rfl (Nat.le_of_ble_eq_true rfl) rfl rfl ?_
              refine aw_iinc (ls' := [some (vR 0), some (vI s), some (vI ((L : Nat) : Int)), some (vI b), some (vI (((p : Nat) : Int) + 1))]) hO dX12_toldPick_51 rfl rfl rfl rfl ?_
              refine aw_lsq (ls' := [some (vR 0), some (vI s), some (vI ((L : Nat) : Int)), some (vI b), some (vI (((p + 1) : Nat) : Int))]) rfl ?_
              refine aw_goto (tgt := 5) hO dX12_toldPick_54 rfl ?_
              refine aw_lsq (ls' := [some (vR 0), some (vI s), some (vI ((L : Nat) : Int)), some (vI b), some (vI (((p + 1) : Nat) : Int))]) rfl ?_
              exact ih (p + 1) b (by omega) (by rw [best_succ, if_neg (fun q => q.2.elim (fun q => c25 (by rw [hb]; exact q)) (fun q => by rw [← hb] at q; omega))]; exact hb)
            · refine aw_iload hO dX12_toldPick_44 rfl rfl ?_
              refine aw_goto (tgt := 50) hO dX12_toldPick_46 rfl ?_
              refine aw_istore_n (ls' := [some (vR 0), some (vI s), some (vI ((L : Nat) : Int)), some (vI ((p : Nat) : Int)), some (vI ((p : Nat) : Int))]) hO dX12_toldPick_50 rfl (Nat.le_of_ble_eq_true rfl) rfl rfl ?_
              refine aw_iinc (ls' := [some (vR 0), some (vI s), some (vI ((L : Nat) : Int)), some (vI ((p : Nat) : Int)), some (vI (((p : Nat) : Int) + 1))]) hO dX12_toldPick_51 rfl rfl rfl rfl ?_
              refine aw_lsq (ls' := [some (vR 0), some (vI s), some (vI ((L : Nat) : Int)), some (vI ((p : Nat) : Int)), some (vI (((p + 1) : Nat) : Int))]) rfl ?_
              refine aw_goto (tgt := 5) hO dX12_toldPick_54 rfl ?_
              refine aw_lsq (ls' := [some (vR 0), some (vI s), some (vI ((L : Nat) : Int)), some (vI ((p : Nat) : Int)), some (vI (((p + 1) : Nat) : Int))]) rfl ?_
              exact ih (p + 1) (p : Int) (by omega) (by rw [best_succ, if_pos ⟨c20, Or.inr (by rw [← hb]; exact c41)⟩])
  refine aw_iconst hO dX12_toldPick_0 rfl ?_
  refine aw_istore_n (ls' := [some (vR 0), some (vI s), some (vI ((L : Nat) : Int)), some (vI (-1)), none]) hO dX12_toldPick_1 rfl (Nat.le_of_ble_eq_true rfl) rfl rfl ?_
  refine aw_iconst hO dX12_toldPick_2 rfl ?_
  refine aw_istore (ls' := [some (vR 0), some (vI s), some (vI ((L : Nat) : Int)), some (vI (-1)), some (vI 0)]) hO dX12_toldPick_3 rfl (Nat.le_of_ble_eq_true rfl) rfl rfl ?_
  refine aw_lsq (ls' := [some (vR 0), some (vI s), some (vI ((L : Nat) : Int)), some (vI (-1)), some (vI ((0 : Nat) : Int))]) rfl ?_
  exact lp (μ.1 0 25).toNat 0 (-1) (by omega) rfl
theorem dX12_areLikings_0 : decode cX12_areLikings 0 = .ok (.iconst 0, 1) := by decide +kernel
theorem dX12_areLikings_1 : decode cX12_areLikings 1 = .ok (.istore_n 2, 1) := by decide +kernel
theorem dX12_areLikings_2 : decode cX12_areLikings 2 = .ok (.iload_n 2, 1) := by decide +kernel
theorem dX12_areLikings_3 : decode cX12_areLikings 3 = .ok (.aload_n 0, 1) := by decide +kernel
theorem dX12_areLikings_4 : decode cX12_areLikings 4 = .ok (.getfield 248, 3) := by decide +kernel
theorem dX12_areLikings_7 : decode cX12_areLikings 7 = .ok (.if_icmp .ge 45, 3) := by decide +kernel
theorem dX12_areLikings_10 : decode cX12_areLikings 10 = .ok (.aload_n 0, 1) := by decide +kernel
theorem dX12_areLikings_11 : decode cX12_areLikings 11 = .ok (.aload_n 0, 1) := by decide +kernel
theorem dX12_areLikings_12 : decode cX12_areLikings 12 = .ok (.getfield 77, 3) := by decide +kernel
theorem dX12_areLikings_15 : decode cX12_areLikings 15 = .ok (.iload_n 2, 1) := by decide +kernel
theorem dX12_areLikings_16 : decode cX12_areLikings 16 = .ok (.iaload, 1) := by decide +kernel
theorem dX12_areLikings_17 : decode cX12_areLikings 17 = .ok (.iload_n 1, 1) := by decide +kernel
theorem dX12_areLikings_18 : decode cX12_areLikings 18 = .ok (.invokevirtual 381, 3) := by decide +kernel
theorem dX12_areLikings_21 : decode cX12_areLikings 21 = .ok (.aload_n 0, 1) := by decide +kernel
theorem dX12_areLikings_22 : decode cX12_areLikings 22 = .ok (.getfield 80, 3) := by decide +kernel
theorem dX12_areLikings_25 : decode cX12_areLikings 25 = .ok (.iload_n 2, 1) := by decide +kernel
theorem dX12_areLikings_26 : decode cX12_areLikings 26 = .ok (.iaload, 1) := by decide +kernel
theorem dX12_areLikings_27 : decode cX12_areLikings 27 = .ok (.if_icmp .ne 7, 3) := by decide +kernel
theorem dX12_areLikings_30 : decode cX12_areLikings 30 = .ok (.iconst 1, 1) := by decide +kernel
theorem dX12_areLikings_31 : decode cX12_areLikings 31 = .ok (.goto 4, 3) := by decide +kernel
theorem dX12_areLikings_34 : decode cX12_areLikings 34 = .ok (.iconst 0, 1) := by decide +kernel
theorem dX12_areLikings_35 : decode cX12_areLikings 35 = .ok (.aload_n 0, 1) := by decide +kernel
theorem dX12_areLikings_36 : decode cX12_areLikings 36 = .ok (.getfield 83, 3) := by decide +kernel
theorem dX12_areLikings_39 : decode cX12_areLikings 39 = .ok (.iload_n 2, 1) := by decide +kernel
theorem dX12_areLikings_40 : decode cX12_areLikings 40 = .ok (.baload, 1) := by decide +kernel
theorem dX12_areLikings_41 : decode cX12_areLikings 41 = .ok (.if_icmp .eq 5, 3) := by decide +kernel
theorem dX12_areLikings_44 : decode cX12_areLikings 44 = .ok (.iconst 0, 1) := by decide +kernel
theorem dX12_areLikings_45 : decode cX12_areLikings 45 = .ok (.ireturn, 1) := by decide +kernel
theorem dX12_areLikings_46 : decode cX12_areLikings 46 = .ok (.iinc 2 1, 3) := by decide +kernel
theorem dX12_areLikings_49 : decode cX12_areLikings 49 = .ok (.goto (-47), 3) := by decide +kernel
theorem dX12_areLikings_52 : decode cX12_areLikings 52 = .ok (.iconst 1, 1) := by decide +kernel
theorem dX12_areLikings_53 : decode cX12_areLikings 53 = .ok (.ireturn, 1) := by decide +kernel
set_option maxHeartbeats 4000000 in
set_option maxRecDepth 100000 in
theorem ctM_areLikings (μ : Mm) (h : MB μ) (hN : NoteOK μ) {L : Nat} (hL : L < 1000) : CtI PM 4 yX12_areLikings cX12_areLikings 3 (some .boolean) [vR 0, vI ((L : Nat) : Int)] μ (if likB μ L = true then 1 else 0) := by
  refine ct_intro [some (vR 0), some (vI ((L : Nat) : Int)), none] RX12 (by decide) rfl XM rfl (Nat.le_of_ble_eq_true rfl) (fun K hO => ?_)
  have hnp := h.np
  have hno := hN.1
  have lp : ∀ (c : Nat) (k : Nat), ((k : Int) + c = μ.1 0 41) → (allB (likK μ L) k = true) → AW K 2 [some (vR 0), some (vI ((L : Nat) : Int)), some (vI ((k : Nat) : Int))] [] μ := by
    intro c
    induction c with
    | zero =>
      intro k hk hr
      refine aw_iload_n hO dX12_areLikings_2 rfl rfl ?_
      refine aw_aload_n hO dX12_areLikings_3 rfl rfl ?_
      refine gM_noted hO dX12_areLikings_4 rfl ?_
      refine aw_icmp_ge (tgt := 52) hO dX12_areLikings_7 rfl rfl (inRn (by omega)) ⟨by omega, by omega⟩ (fun c7 => ?_) (fun c7 => ?_)
      · refine aw_iconst hO dX12_areLikings_52 rfl ?_
        refine aw_zret hO dX12_areLikings_53 (Or.inr rfl) ?_
        exact rI (by unfold likB; rw [show (μ.1 0 41).toNat = k by omega, if_pos hr])
      · exact absurd c7 (by omega)
    | succ c ih =>
      intro k hk hr
      refine aw_iload_n hO dX12_areLikings_2 rfl rfl ?_
      refine aw_aload_n hO dX12_areLikings_3 rfl rfl ?_
      refine gM_noted hO dX12_areLikings_4 rfl ?_
      refine aw_icmp_ge (tgt := 52) hO dX12_areLikings_7 rfl rfl (inRn (by omega)) ⟨by omega, by omega⟩ (fun c7 => ?_) (fun c7 => ?_)
      · exact absurd c7 (by omega)
      · have hnk := hN.2 k (by omega)
        refine aw_aload_n hO dX12_areLikings_10 rfl rfl ?_
        refine aw_aload_n hO dX12_areLikings_11 rfl rfl ?_
        refine gM_noteSet hO dX12_areLikings_12 rfl ?_
        refine aw_iload_n hO dX12_areLikings_15 rfl rfl ?_
        refine aw_ialdn (N := 10) (i := k) hO dX12_areLikings_16 rfl (by decide) rfl (by decide) (by omega) (by omega) ?_
        refine aw_iload_n hO dX12_areLikings_17 rfl rfl ?_
        refine aw_callVI (as := [vI (μ.1 21 k), vI ((L : Nat) : Int)]) (st := []) hO dX12_areLikings_18 rfl (lw_t7 233 rfl rfl) kX12_toldPick (T := TX12) rfl (by decide) rfl (ctM_toldPick μ h (μ.1 21 k) (L := L) hL) (by decide) rfl rfl rfl (Nat.le_of_ble_eq_true rfl) ?_
        have q1 := best_rng (fun p => hasB (μ.1 21 k) p) (tapM μ L) (μ.1 0 25).toNat
        rw [show best (fun p => hasB (μ.1 21 k) p) (tapM μ L) (μ.1 0 25).toNat = tpkM μ (μ.1 21 k) L from rfl] at q1
        refine aw_aload_n hO dX12_areLikings_21 rfl rfl ?_
        refine gM_noteOne hO dX12_areLikings_22 rfl ?_
        refine aw_iload_n hO dX12_areLikings_25 rfl rfl ?_
        refine aw_ialdn (N := 10) (i := k) hO dX12_areLikings_26 rfl (by decide) rfl (by decide) (by omega) (by omega) ?_
        refine aw_icmp_ne (tgt := 34) hO dX12_areLikings_27 rfl rfl ⟨by omega, by omega⟩ ⟨by omega, by omega⟩ (fun c27 => ?_) (fun c27 => ?_)
        · refine aw_iconst hO dX12_areLikings_34 rfl ?_
          refine aw_aload_n hO dX12_areLikings_35 rfl rfl ?_
          refine gM_noteIs hO dX12_areLikings_36 rfl ?_
          refine aw_iload_n hO dX12_areLikings_39 rfl rfl ?_
          refine aw_zald (N := 10) (i := k) hO dX12_areLikings_40 rfl (by decide) rfl (by decide) (by omega) (by omega) ?_
          refine aw_icmp_eq (tgt := 46) hO dX12_areLikings_41 rfl rfl (inRlit _) ⟨by omega, by omega⟩ (fun c41 => ?_) (fun c41 => ?_)
          · refine aw_iinc (ls' := [some (vR 0), some (vI ((L : Nat) : Int)), some (vI (((k : Nat) : Int) + 1))]) hO dX12_areLikings_46 rfl rfl rfl rfl ?_
            refine aw_lsq (ls' := [some (vR 0), some (vI ((L : Nat) : Int)), some (vI (((k + 1) : Nat) : Int))]) rfl ?_
            refine aw_goto (tgt := 2) hO dX12_areLikings_49 rfl ?_
            refine aw_lsq (ls' := [some (vR 0), some (vI ((L : Nat) : Int)), some (vI (((k + 1) : Nat) : Int))]) rfl ?_
            exact ih (k + 1) (by omega) (allB_t hr (by unfold likK; rw [decide_eq_true_eq, if_neg c27]; exact c41))
          · refine aw_iconst hO dX12_areLikings_44 rfl ?_
            refine aw_zret hO dX12_areLikings_45 (Or.inl rfl) ?_
            exact rI (by unfold likB; rw [allB_f (k := k) (by unfold likK; rw [decide_eq_true_eq, if_neg c27]; exact c41) _ (by omega)]; rfl)
        · refine aw_iconst hO dX12_areLikings_30 rfl ?_
          refine aw_goto (tgt := 35) hO dX12_areLikings_31 rfl ?_
          refine aw_aload_n hO dX12_areLikings_35 rfl rfl ?_
          refine gM_noteIs hO dX12_areLikings_36 rfl ?_
          refine aw_iload_n hO dX12_areLikings_39 rfl rfl ?_
          refine aw_zald (N := 10) (i := k) hO dX12_areLikings_40 rfl (by decide) rfl (by decide) (by omega) (by omega) ?_
          refine aw_icmp_eq (tgt := 46) hO dX12_areLikings_41 rfl rfl (inRlit _) ⟨by omega, by omega⟩ (fun c41 => ?_) (fun c41 => ?_)
          · refine aw_iinc (ls' := [some (vR 0), some (vI ((L : Nat) : Int)), some (vI (((k : Nat) : Int) + 1))]) hO dX12_areLikings_46 rfl rfl rfl rfl ?_
            refine aw_lsq (ls' := [some (vR 0), some (vI ((L : Nat) : Int)), some (vI (((k + 1) : Nat) : Int))]) rfl ?_
            refine aw_goto (tgt := 2) hO dX12_areLikings_49 rfl ?_
            refine aw_lsq (ls' := [some (vR 0), some (vI ((L : Nat) : Int)), some (vI (((k + 1) : Nat) : Int))]) rfl ?_
            exact ih (k + 1) (by omega) (allB_t hr (by unfold likK; rw [decide_eq_true_eq, if_pos c27]; exact c41))
          · refine aw_iconst hO dX12_areLikings_44 rfl ?_
            refine aw_zret hO dX12_areLikings_45 (Or.inl rfl) ?_
            exact rI (by unfold likB; rw [allB_f (k := k) (by unfold likK; rw [decide_eq_true_eq, if_pos c27]; exact c41) _ (by omega)]; rfl)
  refine aw_iconst hO dX12_areLikings_0 rfl ?_
  refine aw_istore_n (ls' := [some (vR 0), some (vI ((L : Nat) : Int)), some (vI 0)]) hO dX12_areLikings_1 rfl (Nat.le_of_ble_eq_true rfl) rfl rfl ?_
  refine aw_lsq (ls' := [some (vR 0), some (vI ((L : Nat) : Int)), some (vI ((0 : Nat) : Int))]) rfl ?_
  exact lp (μ.1 0 41).toNat 0 (by omega) rfl
theorem dX12_likings_0 : decode cX12_likings 0 = .ok (.aload_n 0, 1) := by decide +kernel
theorem dX12_likings_1 : decode cX12_likings 1 = .ok (.getfield 242, 3) := by decide +kernel
theorem dX12_likings_4 : decode cX12_likings 4 = .ok (.ifCond .eq 8, 3) := by decide +kernel
theorem dX12_likings_7 : decode cX12_likings 7 = .ok (.iload_n 1, 1) := by decide +kernel
theorem dX12_likings_8 : decode cX12_likings 8 = .ok (.iconst (-1), 1) := by decide +kernel
theorem dX12_likings_9 : decode cX12_likings 9 = .ok (.if_icmp .ge 5, 3) := by decide +kernel
theorem dX12_likings_12 : decode cX12_likings 12 = .ok (.iconst (-1), 1) := by decide +kernel
theorem dX12_likings_13 : decode cX12_likings 13 = .ok (.ireturn, 1) := by decide +kernel
theorem dX12_likings_14 : decode cX12_likings 14 = .ok (.iconst 0, 1) := by decide +kernel
theorem dX12_likings_15 : decode cX12_likings 15 = .ok (.istore_n 2, 1) := by decide +kernel
theorem dX12_likings_16 : decode cX12_likings 16 = .ok (.iconst 0, 1) := by decide +kernel
theorem dX12_likings_17 : decode cX12_likings 17 = .ok (.istore_n 3, 1) := by decide +kernel
theorem dX12_likings_18 : decode cX12_likings 18 = .ok (.iload_n 3, 1) := by decide +kernel
theorem dX12_likings_19 : decode cX12_likings 19 = .ok (.sipush 1000, 3) := by decide +kernel
theorem dX12_likings_22 : decode cX12_likings 22 = .ok (.if_icmp .ge 27, 3) := by decide +kernel
theorem dX12_likings_25 : decode cX12_likings 25 = .ok (.aload_n 0, 1) := by decide +kernel
theorem dX12_likings_26 : decode cX12_likings 26 = .ok (.iload_n 3, 1) := by decide +kernel
theorem dX12_likings_27 : decode cX12_likings 27 = .ok (.invokevirtual 384, 3) := by decide +kernel
theorem dX12_likings_30 : decode cX12_likings 30 = .ok (.ifCond .eq 13, 3) := by decide +kernel
theorem dX12_likings_33 : decode cX12_likings 33 = .ok (.iload_n 2, 1) := by decide +kernel
theorem dX12_likings_34 : decode cX12_likings 34 = .ok (.iload_n 1, 1) := by decide +kernel
theorem dX12_likings_35 : decode cX12_likings 35 = .ok (.if_icmp .ne 5, 3) := by decide +kernel
theorem dX12_likings_38 : decode cX12_likings 38 = .ok (.iload_n 3, 1) := by decide +kernel
theorem dX12_likings_39 : decode cX12_likings 39 = .ok (.ireturn, 1) := by decide +kernel
theorem dX12_likings_40 : decode cX12_likings 40 = .ok (.iinc 2 1, 3) := by decide +kernel
theorem dX12_likings_43 : decode cX12_likings 43 = .ok (.iinc 3 1, 3) := by decide +kernel
theorem dX12_likings_46 : decode cX12_likings 46 = .ok (.goto (-28), 3) := by decide +kernel
theorem dX12_likings_49 : decode cX12_likings 49 = .ok (.iload_n 1, 1) := by decide +kernel
theorem dX12_likings_50 : decode cX12_likings 50 = .ok (.iconst (-1), 1) := by decide +kernel
theorem dX12_likings_51 : decode cX12_likings 51 = .ok (.if_icmp .ne 7, 3) := by decide +kernel
theorem dX12_likings_54 : decode cX12_likings 54 = .ok (.iload_n 2, 1) := by decide +kernel
theorem dX12_likings_55 : decode cX12_likings 55 = .ok (.goto 4, 3) := by decide +kernel
theorem dX12_likings_58 : decode cX12_likings 58 = .ok (.iconst (-1), 1) := by decide +kernel
theorem dX12_likings_59 : decode cX12_likings 59 = .ok (.ireturn, 1) := by decide +kernel
set_option maxHeartbeats 4000000 in
set_option maxRecDepth 100000 in
theorem ctM_likings (μ : Mm) (h : MB μ) (hN : NoteOK μ) {v : Int} (hv : InR v) : CtI PM 5 yX12_likings cX12_likings 4 (some .int) [vR 0, vI v] μ (if μ.1 0 25 ≠ 0 ∧ -1 ≤ v then selG (likB μ) (fun k => (k : Int)) v 1000 else -1) := by
  refine ct_intro [some (vR 0), some (vI v), none, none] RX12 (by decide) rfl XM rfl (Nat.le_of_ble_eq_true rfl) (fun K hO => ?_)
  have hnp := h.np
  have body : μ.1 0 25 ≠ 0 ∧ -1 ≤ v → AW K 18 [some (vR 0), some (vI v), some (vI ((0 : Nat) : Int)), some (vI ((0 : Nat) : Int))] [] μ := by
    intro hw
    have lp : ∀ (c : Nat) (k : Nat), (k + c = 1000) → (fndG (likB μ) (fun k => (k : Int)) v k = none) → AW K 18 [some (vR 0), some (vI v), some (vI (((cntB (likB μ) k) : Nat) : Int)), some (vI ((k : Nat) : Int))] [] μ := by
      intro c
      induction c with
      | zero =>
        intro k hk hn
        have hcb := cntB_le (likB μ) k
        refine aw_iload_n hO dX12_likings_18 rfl rfl ?_
        refine aw_sipush hO dX12_likings_19 rfl (by decide) (by decide) ?_
        refine aw_icmp_ge (tgt := 49) hO dX12_likings_22 rfl rfl (inRn (by omega)) (inRlit _) (fun c22 => ?_) (fun c22 => ?_)
        · refine aw_iload_n hO dX12_likings_49 rfl rfl ?_
          refine aw_iconst hO dX12_likings_50 rfl ?_
          refine aw_icmp_ne (tgt := 58) hO dX12_likings_51 rfl rfl ⟨by omega, by omega⟩ (inRlit _) (fun c51 => ?_) (fun c51 => ?_)
          · refine aw_iconst hO dX12_likings_58 rfl ?_
            refine aw_iret hO dX12_likings_59 ?_
            exact rI (by rw [if_pos hw]; unfold selG; rw [show 1000 = k by omega, hn]; show _ = (if v = -1 then _ else _); rw [if_neg c51])
          · refine aw_iload_n hO dX12_likings_54 rfl rfl ?_
            refine aw_goto (tgt := 59) hO dX12_likings_55 rfl ?_
            refine aw_iret hO dX12_likings_59 ?_
            exact rI (by rw [if_pos hw]; unfold selG; rw [show 1000 = k by omega, hn]; show _ = (if v = -1 then _ else _); rw [if_pos c51])
        · exact absurd c22 (by omega)
      | succ c ih =>
        intro k hk hn
        have hcb := cntB_le (likB μ) k
        refine aw_iload_n hO dX12_likings_18 rfl rfl ?_
        refine aw_sipush hO dX12_likings_19 rfl (by decide) (by decide) ?_
        refine aw_icmp_ge (tgt := 49) hO dX12_likings_22 rfl rfl (inRn (by omega)) (inRlit _) (fun c22 => ?_) (fun c22 => ?_)
        · exact absurd c22 (by omega)
        · refine aw_aload_n hO dX12_likings_25 rfl rfl ?_
          refine aw_iload_n hO dX12_likings_26 rfl rfl ?_
          refine aw_callVI (as := [vI ((k : Nat) : Int)]) (st := []) hO dX12_likings_27 rfl (lw_t7 229 rfl rfl) kX12_areLikings (T := TX12) rfl (by decide) rfl (ctM_areLikings μ h hN (L := k) (by omega)) (by decide) rfl rfl rfl (Nat.le_of_ble_eq_true rfl) ?_
          refine aw_ifz_eq (tgt := 43) hO dX12_likings_30 rfl rfl (fun c30 => ?_) (fun c30 => ?_)
          · refine aw_iinc (ls' := [some (vR 0), some (vI v), some (vI (((cntB (likB μ) k) : Nat) : Int)), some (vI (((k : Nat) : Int) + 1))]) hO dX12_likings_43 rfl rfl rfl rfl ?_
            refine aw_lsq (ls' := [some (vR 0), some (vI v), some (vI (((cntB (likB μ) k) : Nat) : Int)), some (vI (((k + 1) : Nat) : Int))]) rfl ?_
            refine aw_goto (tgt := 18) hO dX12_likings_46 rfl ?_
            refine aw_lsq (ls' := [some (vR 0), some (vI v), some (vI (((cntB (likB μ) (k + 1)) : Nat) : Int)), some (vI (((k + 1) : Nat) : Int))]) (by rw [cntB_f c30]) ?_
            exact ih (k + 1) (by omega) (fndG_n1 hn c30)
          · refine aw_iload_n hO dX12_likings_33 rfl rfl ?_
            refine aw_iload_n hO dX12_likings_34 rfl rfl ?_
            refine aw_icmp_ne (tgt := 40) hO dX12_likings_35 rfl rfl ⟨by omega, by omega⟩ ⟨by omega, by omega⟩ (fun c35 => ?_) (fun c35 => ?_)
            · refine aw_iinc (ls' := [some (vR 0), some (vI v), some (vI ((((cntB (likB μ) k) : Nat) : Int) + 1)), some (vI ((k : Nat) : Int))]) hO dX12_likings_40 rfl rfl rfl rfl ?_
              refine aw_lsq (ls' := [some (vR 0), some (vI v), some (vI ((((cntB (likB μ) k) + 1) : Nat) : Int)), some (vI ((k : Nat) : Int))]) rfl ?_
              refine aw_iinc (ls' := [some (vR 0), some (vI v), some (vI ((((cntB (likB μ) k) + 1) : Nat) : Int)), some (vI (((k : Nat) : Int) + 1))]) hO dX12_likings_43 rfl rfl rfl rfl ?_
              refine aw_lsq (ls' := [some (vR 0), some (vI v), some (vI ((((cntB (likB μ) k) + 1) : Nat) : Int)), some (vI (((k + 1) : Nat) : Int))]) rfl ?_
              refine aw_goto (tgt := 18) hO dX12_likings_46 rfl ?_
              refine aw_lsq (ls' := [some (vR 0), some (vI v), some (vI (((cntB (likB μ) (k + 1)) : Nat) : Int)), some (vI (((k + 1) : Nat) : Int))]) (by rw [cntB_t c30]) ?_
              exact ih (k + 1) (by omega) (fndG_n2 hn c35)
            · refine aw_iload_n hO dX12_likings_38 rfl rfl ?_
              refine aw_iret hO dX12_likings_39 ?_
              exact rI (by rw [if_pos hw, selG_hit (cd := (fun k => (k : Int))) hn c30 c35 (by omega)])
    exact lp 1000 0 rfl rfl
  refine aw_aload_n hO dX12_likings_0 rfl rfl ?_
  refine gM_persons hO dX12_likings_1 rfl ?_
  refine aw_if_eq (tgt := 12) hO dX12_likings_4 rfl rfl ⟨by omega, by omega⟩ (fun c4 => ?_) (fun c4 => ?_)
  · refine aw_iconst hO dX12_likings_12 rfl ?_
    refine aw_iret hO dX12_likings_13 ?_
    exact rI (by rw [if_neg (fun q => q.1 c4)])
  · refine aw_iload_n hO dX12_likings_7 rfl rfl ?_
    refine aw_iconst hO dX12_likings_8 rfl ?_
    refine aw_icmp_ge (tgt := 14) hO dX12_likings_9 rfl rfl ⟨by omega, by omega⟩ (inRlit _) (fun c9 => ?_) (fun c9 => ?_)
    · refine aw_iconst hO dX12_likings_14 rfl ?_
      refine aw_istore_n (ls' := [some (vR 0), some (vI v), some (vI 0), none]) hO dX12_likings_15 rfl (Nat.le_of_ble_eq_true rfl) rfl rfl ?_
      refine aw_iconst hO dX12_likings_16 rfl ?_
      refine aw_istore_n (ls' := [some (vR 0), some (vI v), some (vI 0), some (vI 0)]) hO dX12_likings_17 rfl (Nat.le_of_ble_eq_true rfl) rfl rfl ?_
      refine aw_lsq (ls' := [some (vR 0), some (vI v), some (vI ((0 : Nat) : Int)), some (vI ((0 : Nat) : Int))]) rfl ?_
      exact body ⟨c4, c9⟩
    · refine aw_iconst hO dX12_likings_12 rfl ?_
      refine aw_iret hO dX12_likings_13 ?_
      exact rI (by rw [if_neg (fun q => absurd q.2 (by omega))])

def apF (μ : Mm) (p o : Nat) (L : Nat) : Int := if likB μ L = true then (if tpkM μ (bOr (bShl 1 (p : Int)) (bShl 1 (o : Int))) L = (p : Int) then 1 else -1) else 0
def apD (μ : Mm) (p o : Nat) : Int := if 0 ≤ sumF (apF μ p o) 1000 then sumF (apF μ p o) 1000 else -(sumF (apF μ p o) 1000)
theorem apF_rng {f : Nat → Int} (h : ∀ k, -1 ≤ f k ∧ f k ≤ 1) : ∀ n : Nat, -(n : Int) ≤ sumF f n ∧ sumF f n ≤ n
  | 0 => by simp [sumF]
  | n + 1 => by
    have := apF_rng h n
    have := h n
    unfold sumF
    omega
theorem apF_1 (μ : Mm) (p o L : Nat) : -1 ≤ apF μ p o L ∧ apF μ p o L ≤ 1 := by
  unfold apF
  split
  · split <;> omega
  · omega
theorem dX12_apartBy_0 : decode cX12_apartBy 0 = .ok (.iconst 0, 1) := by decide +kernel
theorem dX12_apartBy_1 : decode cX12_apartBy 1 = .ok (.istore_n 3, 1) := by decide +kernel
theorem dX12_apartBy_2 : decode cX12_apartBy 2 = .ok (.iconst 0, 1) := by decide +kernel
theorem dX12_apartBy_3 : decode cX12_apartBy 3 = .ok (.istore 4, 2) := by decide +kernel
theorem dX12_apartBy_5 : decode cX12_apartBy 5 = .ok (.iload 4, 2) := by decide +kernel
theorem dX12_apartBy_7 : decode cX12_apartBy 7 = .ok (.sipush 1000, 3) := by decide +kernel
theorem dX12_apartBy_10 : decode cX12_apartBy 10 = .ok (.if_icmp .ge 47, 3) := by decide +kernel
theorem dX12_apartBy_13 : decode cX12_apartBy 13 = .ok (.iload_n 3, 1) := by decide +kernel
theorem dX12_apartBy_14 : decode cX12_apartBy 14 = .ok (.aload_n 0, 1) := by decide +kernel
theorem dX12_apartBy_15 : decode cX12_apartBy 15 = .ok (.iload 4, 2) := by decide +kernel
theorem dX12_apartBy_17 : decode cX12_apartBy 17 = .ok (.invokevirtual 384, 3) := by decide +kernel
theorem dX12_apartBy_20 : decode cX12_apartBy 20 = .ok (.ifCond .ne 7, 3) := by decide +kernel
theorem dX12_apartBy_23 : decode cX12_apartBy 23 = .ok (.iconst 0, 1) := by decide +kernel
theorem dX12_apartBy_24 : decode cX12_apartBy 24 = .ok (.goto 25, 3) := by decide +kernel
theorem dX12_apartBy_27 : decode cX12_apartBy 27 = .ok (.aload_n 0, 1) := by decide +kernel
theorem dX12_apartBy_28 : decode cX12_apartBy 28 = .ok (.iconst 1, 1) := by decide +kernel
theorem dX12_apartBy_29 : decode cX12_apartBy 29 = .ok (.iload_n 1, 1) := by decide +kernel
theorem dX12_apartBy_30 : decode cX12_apartBy 30 = .ok (.ishl, 1) := by decide +kernel
theorem dX12_apartBy_31 : decode cX12_apartBy 31 = .ok (.iconst 1, 1) := by decide +kernel
theorem dX12_apartBy_32 : decode cX12_apartBy 32 = .ok (.iload_n 2, 1) := by decide +kernel
theorem dX12_apartBy_33 : decode cX12_apartBy 33 = .ok (.ishl, 1) := by decide +kernel
theorem dX12_apartBy_34 : decode cX12_apartBy 34 = .ok (.ior, 1) := by decide +kernel
theorem dX12_apartBy_35 : decode cX12_apartBy 35 = .ok (.iload 4, 2) := by decide +kernel
theorem dX12_apartBy_37 : decode cX12_apartBy 37 = .ok (.invokevirtual 381, 3) := by decide +kernel
theorem dX12_apartBy_40 : decode cX12_apartBy 40 = .ok (.iload_n 1, 1) := by decide +kernel
theorem dX12_apartBy_41 : decode cX12_apartBy 41 = .ok (.if_icmp .ne 7, 3) := by decide +kernel
theorem dX12_apartBy_44 : decode cX12_apartBy 44 = .ok (.iconst 1, 1) := by decide +kernel
theorem dX12_apartBy_45 : decode cX12_apartBy 45 = .ok (.goto 4, 3) := by decide +kernel
theorem dX12_apartBy_48 : decode cX12_apartBy 48 = .ok (.iconst (-1), 1) := by decide +kernel
theorem dX12_apartBy_49 : decode cX12_apartBy 49 = .ok (.iadd, 1) := by decide +kernel
theorem dX12_apartBy_50 : decode cX12_apartBy 50 = .ok (.istore_n 3, 1) := by decide +kernel
theorem dX12_apartBy_51 : decode cX12_apartBy 51 = .ok (.iinc 4 1, 3) := by decide +kernel
theorem dX12_apartBy_54 : decode cX12_apartBy 54 = .ok (.goto (-49), 3) := by decide +kernel
theorem dX12_apartBy_57 : decode cX12_apartBy 57 = .ok (.iload_n 3, 1) := by decide +kernel
theorem dX12_apartBy_58 : decode cX12_apartBy 58 = .ok (.invokestatic 316, 3) := by decide +kernel
theorem dX12_apartBy_61 : decode cX12_apartBy 61 = .ok (.ireturn, 1) := by decide +kernel
set_option maxHeartbeats 4000000 in
set_option maxRecDepth 100000 in
theorem ctM_apartBy (μ : Mm) (h : MB μ) (hN : NoteOK μ) {p o : Nat} (hp : p < 6) (ho : o < 6) : CtI PM 5 yX12_apartBy cX12_apartBy 5 (some .int) [vR 0, vI ((p : Nat) : Int), vI ((o : Nat) : Int)] μ (apD μ p o) := by
  refine ct_intro [some (vR 0), some (vI ((p : Nat) : Int)), some (vI ((o : Nat) : Int)), none, none] RX12 (by decide) rfl XM rfl (Nat.le_of_ble_eq_true rfl) (fun K hO => ?_)
  have hnp := h.np
  have lp : ∀ (c : Nat) (L : Nat) (s : Int), (L + c = 1000) → (s = sumF (apF μ p o) L) → AW K 5 [some (vR 0), some (vI ((p : Nat) : Int)), some (vI ((o : Nat) : Int)), some (vI s), some (vI ((L : Nat) : Int))] [] μ := by
    intro c
    induction c with
    | zero =>
      intro L s hk hs
      have hsr := apF_rng (apF_1 μ p o) L
      rw [← hs] at hsr
      refine aw_iload hO dX12_apartBy_5 rfl rfl ?_
      refine aw_sipush hO dX12_apartBy_7 rfl (by decide) (by decide) ?_
      refine aw_icmp_ge (tgt := 57) hO dX12_apartBy_10 rfl rfl (inRn (by omega)) (inRlit _) (fun c10 => ?_) (fun c10 => ?_)
      · refine aw_iload_n hO dX12_apartBy_57 rfl rfl ?_
        refine aw_mabs hO dX12_apartBy_58 rfl (lw_t7 58 rfl rfl) mth_abs (by decide) rfl (Nat.le_of_ble_eq_true rfl) ⟨by omega, by omega⟩ ?_
        refine aw_iret hO dX12_apartBy_61 ?_
        exact rI (by unfold apD; rw [show 1000 = L by omega, ← hs])
      · exact absurd c10 (by omega)
    | succ c ih =>
      intro L s hk hs
      have hsr := apF_rng (apF_1 μ p o) L
      rw [← hs] at hsr
      refine aw_iload hO dX12_apartBy_5 rfl rfl ?_
      refine aw_sipush hO dX12_apartBy_7 rfl (by decide) (by decide) ?_
      refine aw_icmp_ge (tgt := 57) hO dX12_apartBy_10 rfl rfl (inRn (by omega)) (inRlit _) (fun c10 => ?_) (fun c10 => ?_)
      · exact absurd c10 (by omega)
      · refine aw_iload_n hO dX12_apartBy_13 rfl rfl ?_
        refine aw_aload_n hO dX12_apartBy_14 rfl rfl ?_
        refine aw_iload hO dX12_apartBy_15 rfl rfl ?_
        refine aw_callVI (as := [vI ((L : Nat) : Int)]) (st := [vI s]) hO dX12_apartBy_17 rfl (lw_t7 229 rfl rfl) kX12_areLikings (T := TX12) rfl (by decide) rfl (ctM_areLikings μ h hN (L := L) (by omega)) (by decide) rfl rfl rfl (Nat.le_of_ble_eq_true rfl) ?_
        refine aw_ifz_ne (tgt := 27) hO dX12_apartBy_20 rfl rfl (fun c20 => ?_) (fun c20 => ?_)
        · refine aw_aload_n hO dX12_apartBy_27 rfl rfl ?_
          refine aw_iconst hO dX12_apartBy_28 rfl ?_
          refine aw_iload_n hO dX12_apartBy_29 rfl rfl ?_
          refine aw_ishl hO dX12_apartBy_30 rfl ?_
          refine aw_iconst hO dX12_apartBy_31 rfl ?_
          refine aw_iload_n hO dX12_apartBy_32 rfl rfl ?_
          refine aw_ishl hO dX12_apartBy_33 rfl ?_
          refine aw_ior hO dX12_apartBy_34 rfl ?_
          refine aw_iload hO dX12_apartBy_35 rfl rfl ?_
          refine aw_callVI (as := [vI (bOr (bShl 1 ((p : Nat) : Int)) (bShl 1 ((o : Nat) : Int))), vI ((L : Nat) : Int)]) (st := [vI s]) hO dX12_apartBy_37 rfl (lw_t7 233 rfl rfl) kX12_toldPick (T := TX12) rfl (by decide) rfl (ctM_toldPick μ h (bOr (bShl 1 ((p : Nat) : Int)) (bShl 1 ((o : Nat) : Int))) (L := L) (by omega)) (by decide) rfl rfl rfl (Nat.le_of_ble_eq_true rfl) ?_
          have q1 := tpk_rng μ (bOr (bShl 1 ((p : Nat) : Int)) (bShl 1 ((o : Nat) : Int))) L
          refine aw_iload_n hO dX12_apartBy_40 rfl rfl ?_
          refine aw_icmp_ne (tgt := 48) hO dX12_apartBy_41 rfl rfl ⟨by omega, by omega⟩ (inRn (by omega)) (fun c41 => ?_) (fun c41 => ?_)
          · refine aw_iconst hO dX12_apartBy_48 rfl ?_
            refine aw_iadd hO dX12_apartBy_49 rfl ?_
            refine aw_istore_n (ls' := [some (vR 0), some (vI ((p : Nat) : Int)), some (vI ((o : Nat) : Int)), some (vI (s + (-1))), some (vI ((L : Nat) : Int))]) hO dX12_apartBy_50 rfl (Nat.le_of_ble_eq_true rfl) rfl rfl ?_
            refine aw_iinc (ls' := [some (vR 0), some (vI ((p : Nat) : Int)), some (vI ((o : Nat) : Int)), some (vI (s + (-1))), some (vI (((L : Nat) : Int) + 1))]) hO dX12_apartBy_51 rfl rfl rfl rfl ?_
            refine aw_lsq (ls' := [some (vR 0), some (vI ((p : Nat) : Int)), some (vI ((o : Nat) : Int)), some (vI (s + (-1))), some (vI (((L + 1) : Nat) : Int))]) rfl ?_
            refine aw_goto (tgt := 5) hO dX12_apartBy_54 rfl ?_
            refine aw_lsq (ls' := [some (vR 0), some (vI ((p : Nat) : Int)), some (vI ((o : Nat) : Int)), some (vI (s + (-1))), some (vI (((L + 1) : Nat) : Int))]) rfl ?_
            exact ih (L + 1) _ (by omega) (by rw [sumF, ← hs]; unfold apF; rw [if_pos c20, if_neg c41])
          · refine aw_iconst hO dX12_apartBy_44 rfl ?_
            refine aw_goto (tgt := 49) hO dX12_apartBy_45 rfl ?_
            refine aw_iadd hO dX12_apartBy_49 rfl ?_
            refine aw_istore_n (ls' := [some (vR 0), some (vI ((p : Nat) : Int)), some (vI ((o : Nat) : Int)), some (vI (s + 1)), some (vI ((L : Nat) : Int))]) hO dX12_apartBy_50 rfl (Nat.le_of_ble_eq_true rfl) rfl rfl ?_
            refine aw_iinc (ls' := [some (vR 0), some (vI ((p : Nat) : Int)), some (vI ((o : Nat) : Int)), some (vI (s + 1)), some (vI (((L : Nat) : Int) + 1))]) hO dX12_apartBy_51 rfl rfl rfl rfl ?_
            refine aw_lsq (ls' := [some (vR 0), some (vI ((p : Nat) : Int)), some (vI ((o : Nat) : Int)), some (vI (s + 1)), some (vI (((L + 1) : Nat) : Int))]) rfl ?_
            refine aw_goto (tgt := 5) hO dX12_apartBy_54 rfl ?_
            refine aw_lsq (ls' := [some (vR 0), some (vI ((p : Nat) : Int)), some (vI ((o : Nat) : Int)), some (vI (s + 1)), some (vI (((L + 1) : Nat) : Int))]) rfl ?_
            exact ih (L + 1) _ (by omega) (by rw [sumF, ← hs]; unfold apF; rw [if_pos c20, if_pos c41])
        · refine aw_iconst hO dX12_apartBy_23 rfl ?_
          refine aw_goto (tgt := 49) hO dX12_apartBy_24 rfl ?_
          refine aw_iadd hO dX12_apartBy_49 rfl ?_
          refine aw_istore_n (ls' := [some (vR 0), some (vI ((p : Nat) : Int)), some (vI ((o : Nat) : Int)), some (vI (s + 0)), some (vI ((L : Nat) : Int))]) hO dX12_apartBy_50 rfl (Nat.le_of_ble_eq_true rfl) rfl rfl ?_
          refine aw_iinc (ls' := [some (vR 0), some (vI ((p : Nat) : Int)), some (vI ((o : Nat) : Int)), some (vI (s + 0)), some (vI (((L : Nat) : Int) + 1))]) hO dX12_apartBy_51 rfl rfl rfl rfl ?_
          refine aw_lsq (ls' := [some (vR 0), some (vI ((p : Nat) : Int)), some (vI ((o : Nat) : Int)), some (vI (s + 0)), some (vI (((L + 1) : Nat) : Int))]) rfl ?_
          refine aw_goto (tgt := 5) hO dX12_apartBy_54 rfl ?_
          refine aw_lsq (ls' := [some (vR 0), some (vI ((p : Nat) : Int)), some (vI ((o : Nat) : Int)), some (vI (s + 0)), some (vI (((L + 1) : Nat) : Int))]) rfl ?_
          exact ih (L + 1) _ (by omega) (by rw [sumF, ← hs]; unfold apF; rw [if_neg c20])
  refine aw_iconst hO dX12_apartBy_0 rfl ?_
  refine aw_istore_n (ls' := [some (vR 0), some (vI ((p : Nat) : Int)), some (vI ((o : Nat) : Int)), some (vI 0), none]) hO dX12_apartBy_1 rfl (Nat.le_of_ble_eq_true rfl) rfl rfl ?_
  refine aw_iconst hO dX12_apartBy_2 rfl ?_
  refine aw_istore (ls' := [some (vR 0), some (vI ((p : Nat) : Int)), some (vI ((o : Nat) : Int)), some (vI 0), some (vI 0)]) hO dX12_apartBy_3 rfl (Nat.le_of_ble_eq_true rfl) rfl rfl ?_
  refine aw_lsq (ls' := [some (vR 0), some (vI ((p : Nat) : Int)), some (vI ((o : Nat) : Int)), some (vI 0), some (vI ((0 : Nat) : Int))]) rfl ?_
  exact lp 1000 0 0 rfl rfl

def shI (D : Nat → Nat → Int) (p : Nat) (s : Int × Int) : Nat → Int × Int
  | 0 => s
  | j + 1 => if (shI D p s j).1 = -1 ∨ D p (p + 1 + j) < (shI D p s j).2 then (10 * (p : Int) + ((p + 1 + j : Nat) : Int), D p (p + 1 + j)) else shI D p s j
def shO (D : Nat → Nat → Int) (n : Nat) : Nat → Int × Int
  | 0 => (-1, 0)
  | p + 1 => shI D p (shO D n p) (n - 1 - p)
theorem shI_rng {D : Nat → Nat → Int} (hD : ∀ p o, 0 ≤ D p o ∧ D p o ≤ 1000) {p : Nat} {s : Int × Int} (hp : p < 6) (hs : (-1 ≤ s.1 ∧ s.1 ≤ 60) ∧ (0 ≤ s.2 ∧ s.2 ≤ 1000)) : ∀ j, p + j < 6 → (-1 ≤ (shI D p s j).1 ∧ (shI D p s j).1 ≤ 60) ∧ (0 ≤ (shI D p s j).2 ∧ (shI D p s j).2 ≤ 1000)
  | 0, _ => hs
  | j + 1, hj => by
    have := shI_rng hD hp hs j (by omega)
    have := hD p (p + 1 + j)
    unfold shI
    split
    · dsimp only; omega
    · assumption
theorem shO_rng {D : Nat → Nat → Int} (hD : ∀ p o, 0 ≤ D p o ∧ D p o ≤ 1000) {n : Nat} (hn : n ≤ 6) : ∀ p, p ≤ n → (-1 ≤ (shO D n p).1 ∧ (shO D n p).1 ≤ 60) ∧ (0 ≤ (shO D n p).2 ∧ (shO D n p).2 ≤ 1000)
  | 0, _ => by unfold shO; dsimp only; omega
  | p + 1, hp => by
    unfold shO
    exact shI_rng hD (by omega) (shO_rng hD hn p (by omega)) _ (by omega)
theorem apD_rng (μ : Mm) (p o : Nat) : 0 ≤ apD μ p o ∧ apD μ p o ≤ 1000 := by
  have := apF_rng (apF_1 μ p o) 1000
  unfold apD
  split <;> omega
theorem dX12_show_0 : decode cX12_show 0 = .ok (.aload_n 0, 1) := by decide +kernel
theorem dX12_show_1 : decode cX12_show 1 = .ok (.getfield 242, 3) := by decide +kernel
theorem dX12_show_4 : decode cX12_show 4 = .ok (.ifCond .eq 12, 3) := by decide +kernel
theorem dX12_show_7 : decode cX12_show 7 = .ok (.aload_n 0, 1) := by decide +kernel
theorem dX12_show_8 : decode cX12_show 8 = .ok (.iconst 0, 1) := by decide +kernel
theorem dX12_show_9 : decode cX12_show 9 = .ok (.invokevirtual 387, 3) := by decide +kernel
theorem dX12_show_12 : decode cX12_show 12 = .ok (.iconst (-1), 1) := by decide +kernel
theorem dX12_show_13 : decode cX12_show 13 = .ok (.if_icmp .ne 5, 3) := by decide +kernel
theorem dX12_show_16 : decode cX12_show 16 = .ok (.iconst (-1), 1) := by decide +kernel
theorem dX12_show_17 : decode cX12_show 17 = .ok (.ireturn, 1) := by decide +kernel
theorem dX12_show_18 : decode cX12_show 18 = .ok (.iconst (-1), 1) := by decide +kernel
theorem dX12_show_19 : decode cX12_show 19 = .ok (.istore_n 1, 1) := by decide +kernel
theorem dX12_show_20 : decode cX12_show 20 = .ok (.iconst 0, 1) := by decide +kernel
theorem dX12_show_21 : decode cX12_show 21 = .ok (.istore_n 2, 1) := by decide +kernel
theorem dX12_show_22 : decode cX12_show 22 = .ok (.iconst 0, 1) := by decide +kernel
theorem dX12_show_23 : decode cX12_show 23 = .ok (.istore_n 3, 1) := by decide +kernel
theorem dX12_show_24 : decode cX12_show 24 = .ok (.iload_n 3, 1) := by decide +kernel
theorem dX12_show_25 : decode cX12_show 25 = .ok (.aload_n 0, 1) := by decide +kernel
theorem dX12_show_26 : decode cX12_show 26 = .ok (.getfield 242, 3) := by decide +kernel
theorem dX12_show_29 : decode cX12_show 29 = .ok (.if_icmp .ge 60, 3) := by decide +kernel
theorem dX12_show_32 : decode cX12_show 32 = .ok (.iload_n 3, 1) := by decide +kernel
theorem dX12_show_33 : decode cX12_show 33 = .ok (.iconst 1, 1) := by decide +kernel
theorem dX12_show_34 : decode cX12_show 34 = .ok (.iadd, 1) := by decide +kernel
theorem dX12_show_35 : decode cX12_show 35 = .ok (.istore 4, 2) := by decide +kernel
theorem dX12_show_37 : decode cX12_show 37 = .ok (.iload 4, 2) := by decide +kernel
theorem dX12_show_39 : decode cX12_show 39 = .ok (.aload_n 0, 1) := by decide +kernel
theorem dX12_show_40 : decode cX12_show 40 = .ok (.getfield 242, 3) := by decide +kernel
theorem dX12_show_43 : decode cX12_show 43 = .ok (.if_icmp .ge 40, 3) := by decide +kernel
theorem dX12_show_46 : decode cX12_show 46 = .ok (.aload_n 0, 1) := by decide +kernel
theorem dX12_show_47 : decode cX12_show 47 = .ok (.iload_n 3, 1) := by decide +kernel
theorem dX12_show_48 : decode cX12_show 48 = .ok (.iload 4, 2) := by decide +kernel
theorem dX12_show_50 : decode cX12_show 50 = .ok (.invokevirtual 390, 3) := by decide +kernel
theorem dX12_show_53 : decode cX12_show 53 = .ok (.istore 5, 2) := by decide +kernel
theorem dX12_show_55 : decode cX12_show 55 = .ok (.iload_n 1, 1) := by decide +kernel
theorem dX12_show_56 : decode cX12_show 56 = .ok (.iconst (-1), 1) := by decide +kernel
theorem dX12_show_57 : decode cX12_show 57 = .ok (.if_icmp .eq 9, 3) := by decide +kernel
theorem dX12_show_60 : decode cX12_show 60 = .ok (.iload 5, 2) := by decide +kernel
theorem dX12_show_62 : decode cX12_show 62 = .ok (.iload_n 2, 1) := by decide +kernel
theorem dX12_show_63 : decode cX12_show 63 = .ok (.if_icmp .ge 14, 3) := by decide +kernel
theorem dX12_show_66 : decode cX12_show 66 = .ok (.bipush 10, 2) := by decide +kernel
theorem dX12_show_68 : decode cX12_show 68 = .ok (.iload_n 3, 1) := by decide +kernel
theorem dX12_show_69 : decode cX12_show 69 = .ok (.imul, 1) := by decide +kernel
theorem dX12_show_70 : decode cX12_show 70 = .ok (.iload 4, 2) := by decide +kernel
theorem dX12_show_72 : decode cX12_show 72 = .ok (.iadd, 1) := by decide +kernel
theorem dX12_show_73 : decode cX12_show 73 = .ok (.istore_n 1, 1) := by decide +kernel
theorem dX12_show_74 : decode cX12_show 74 = .ok (.iload 5, 2) := by decide +kernel
theorem dX12_show_76 : decode cX12_show 76 = .ok (.istore_n 2, 1) := by decide +kernel
theorem dX12_show_77 : decode cX12_show 77 = .ok (.iinc 4 1, 3) := by decide +kernel
theorem dX12_show_80 : decode cX12_show 80 = .ok (.goto (-43), 3) := by decide +kernel
theorem dX12_show_83 : decode cX12_show 83 = .ok (.iinc 3 1, 3) := by decide +kernel
theorem dX12_show_86 : decode cX12_show 86 = .ok (.goto (-62), 3) := by decide +kernel
theorem dX12_show_89 : decode cX12_show 89 = .ok (.iload_n 1, 1) := by decide +kernel
theorem dX12_show_90 : decode cX12_show 90 = .ok (.ireturn, 1) := by decide +kernel

theorem fndG_rng {P : Nat → Bool} {i : Int} : ∀ {n : Nat} {r : Int}, fndG P (fun k => (k : Int)) i n = some r → 0 ≤ r ∧ r < n
  | 0, _, h => by cases h
  | n + 1, r, h => by
    rw [fndG] at h
    cases e : fndG P (fun k => (k : Int)) i n with
    | none =>
      rw [e] at h
      simp only [Option.none_or] at h
      split at h
      · cases h; omega
      · cases h
    | some q =>
      rw [e] at h
      cases h
      have := fndG_rng e
      omega
theorem lik0_rng (μ : Mm) : -1 ≤ (if μ.1 0 25 ≠ 0 ∧ -1 ≤ 0 then selG (likB μ) (fun k => (k : Int)) 0 1000 else -1) ∧ (if μ.1 0 25 ≠ 0 ∧ -1 ≤ 0 then selG (likB μ) (fun k => (k : Int)) 0 1000 else -1) ≤ 1000 := by
  split
  · unfold selG
    rw [if_neg (by omega)]
    cases e : fndG (likB μ) (fun k => (k : Int)) 0 1000 with
    | none => simp
    | some q => have := fndG_rng e; simp; omega
  · omega
set_option maxHeartbeats 4000000 in
set_option maxRecDepth 100000 in
theorem ctM_show (μ : Mm) (h : MB μ) (hN : NoteOK μ) : CtI PM 6 yX12_show cX12_show 6 (some .int) [vR 0] μ (if μ.1 0 25 ≠ 0 ∧ (if μ.1 0 25 ≠ 0 ∧ -1 ≤ 0 then selG (likB μ) (fun k => (k : Int)) 0 1000 else -1) ≠ -1 then (shO (apD μ) (μ.1 0 25).toNat (μ.1 0 25).toNat).1 else -1) := by
  refine ct_intro [some (vR 0), none, none, none, none, none] RX12 (by decide) rfl XM rfl (Nat.le_of_ble_eq_true rfl) (fun K hO => ?_)
  have hnp := h.np
  have lp : (μ.1 0 25 ≠ 0 ∧ (if μ.1 0 25 ≠ 0 ∧ -1 ≤ 0 then selG (likB μ) (fun k => (k : Int)) 0 1000 else -1) ≠ -1) → ∀ (c : Nat) (p : Nat) (s : Int × Int), (p + c = (μ.1 0 25).toNat) → (s = shO (apD μ) (μ.1 0 25).toNat p) → AW K 24 [some (vR 0), some (vI s.1), some (vI s.2), some (vI ((p : Nat) : Int)), none, none] [] μ := by
    intro hw c
    induction c with
    | zero =>
      intro p s hp hs
      have hsr := shO_rng (apD_rng μ) (n := (μ.1 0 25).toNat) (by omega) p (by omega)
      rw [← hs] at hsr
      refine aw_iload_n hO dX12_show_24 rfl rfl ?_
      refine aw_aload_n hO dX12_show_25 rfl rfl ?_
      refine gM_persons hO dX12_show_26 rfl ?_
      refine aw_icmp_ge (tgt := 89) hO dX12_show_29 rfl rfl (inRn (by omega)) ⟨by omega, by omega⟩ (fun c29 => ?_) (fun c29 => ?_)
      · refine aw_iload_n hO dX12_show_89 rfl rfl ?_
        refine aw_iret hO dX12_show_90 ?_
        exact rI (by rw [if_pos hw, hs, show p = (μ.1 0 25).toNat by omega])
      · exact absurd c29 (by omega)
    | succ c ih =>
      intro p s hp hs
      have hsr := shO_rng (apD_rng μ) (n := (μ.1 0 25).toNat) (by omega) p (by omega)
      rw [← hs] at hsr
      have il : ∀ (c2 : Nat) (j : Nat) (t : Int × Int), (p + 1 + j + c2 = (μ.1 0 25).toNat) → (t = shI (apD μ) p s j) → AW K 37 [some (vR 0), some (vI t.1), some (vI t.2), some (vI ((p : Nat) : Int)), some (vI (((p + 1 + j) : Nat) : Int)), none] [] μ := by
        intro c2
        induction c2 with
        | zero =>
          intro j t hj ht
          have htr := shI_rng (apD_rng μ) (p := p) (s := s) (by omega) hsr j (by omega)
          rw [← ht] at htr
          refine aw_iload hO dX12_show_37 rfl rfl ?_
          refine aw_aload_n hO dX12_show_39 rfl rfl ?_
          refine gM_persons hO dX12_show_40 rfl ?_
          refine aw_icmp_ge (tgt := 83) hO dX12_show_43 rfl rfl (inRn (by omega)) ⟨by omega, by omega⟩ (fun c43 => ?_) (fun c43 => ?_)
          · refine aw_iinc (ls' := [some (vR 0), some (vI t.1), some (vI t.2), some (vI (((p : Nat) : Int) + 1)), some (vI (((p + 1 + j) : Nat) : Int)), none]) hO dX12_show_83 rfl rfl rfl rfl ?_
            refine aw_lsq (ls' := [some (vR 0), some (vI t.1), some (vI t.2), some (vI (((p + 1) : Nat) : Int)), some (vI (((p + 1 + j) : Nat) : Int)), none]) rfl ?_
            refine aw_goto (tgt := 24) hO dX12_show_86 rfl ?_
            refine aw_fg (ls' := [some (vR 0), some (vI t.1), some (vI t.2), some (vI (((p + 1) : Nat) : Int)), none, none]) ⟨rfl, rfl, rfl, rfl, trivial⟩ ?_
            exact ih (p + 1) t (by omega) (by rw [ht, hs, show j = (μ.1 0 25).toNat - 1 - p by omega]; rfl)
          · exact absurd c43 (by omega)
        | succ c2 ih2 =>
          intro j t hj ht
          have htr := shI_rng (apD_rng μ) (p := p) (s := s) (by omega) hsr j (by omega)
          rw [← ht] at htr
          refine aw_iload hO dX12_show_37 rfl rfl ?_
          refine aw_aload_n hO dX12_show_39 rfl rfl ?_
          refine gM_persons hO dX12_show_40 rfl ?_
          refine aw_icmp_ge (tgt := 83) hO dX12_show_43 rfl rfl (inRn (by omega)) ⟨by omega, by omega⟩ (fun c43 => ?_) (fun c43 => ?_)
          · exact absurd c43 (by omega)
          · refine aw_aload_n hO dX12_show_46 rfl rfl ?_
            refine aw_iload_n hO dX12_show_47 rfl rfl ?_
            refine aw_iload hO dX12_show_48 rfl rfl ?_
            refine aw_callVI (as := [vI ((p : Nat) : Int), vI (((p + 1 + j) : Nat) : Int)]) (st := []) hO dX12_show_50 rfl (lw_t8 6 rfl rfl) kX12_apartBy (T := TX12) rfl (by decide) rfl (ctM_apartBy μ h hN (p := p) (o := (p + 1 + j)) (by omega) (by omega)) (by decide) rfl rfl rfl (Nat.le_of_ble_eq_true rfl) ?_
            have q1 := apD_rng μ p (p + 1 + j)
            refine aw_istore (ls' := [some (vR 0), some (vI t.1), some (vI t.2), some (vI ((p : Nat) : Int)), some (vI (((p + 1 + j) : Nat) : Int)), some (vI (apD μ p (p + 1 + j)))]) hO dX12_show_53 rfl (Nat.le_of_ble_eq_true rfl) rfl rfl ?_
            refine aw_iload_n hO dX12_show_55 rfl rfl ?_
            refine aw_iconst hO dX12_show_56 rfl ?_
            refine aw_icmp_eq (tgt := 66) hO dX12_show_57 rfl rfl ⟨by omega, by omega⟩ (inRlit _) (fun c57 => ?_) (fun c57 => ?_)
            · refine aw_bipush hO dX12_show_66 rfl (by decide) (by decide) ?_
              refine aw_iload_n hO dX12_show_68 rfl rfl ?_
              refine aw_imul hO dX12_show_69 rfl ?_
              refine aw_iload hO dX12_show_70 rfl rfl ?_
              refine aw_iadd hO dX12_show_72 rfl ?_
              refine aw_istore_n (ls' := [some (vR 0), some (vI ((10 * ((p : Nat) : Int)) + (((p + 1 + j) : Nat) : Int))), some (vI t.2), some (vI ((p : Nat) : Int)), some (vI (((p + 1 + j) : Nat) : Int)), some (vI (apD μ p (p + 1 + j)))]) hO dX12_show_73 rfl (Nat.le_of_ble_eq_true rfl) rfl rfl ?_
              refine aw_iload hO dX12_show_74 rfl rfl ?_
              refine aw_istore_n (ls' := [some (vR 0), some (vI ((10 * ((p : Nat) : Int)) + (((p + 1 + j) : Nat) : Int))), some (vI (apD μ p (p + 1 + j))), some (vI ((p : Nat) : Int)), some (vI (((p + 1 + j) : Nat) : Int)), some (vI (apD μ p (p + 1 + j)))]) hO dX12_show_76 rfl (Nat.le_of_ble_eq_true rfl) rfl rfl ?_
              refine aw_iinc (ls' := [some (vR 0), some (vI ((10 * ((p : Nat) : Int)) + (((p + 1 + j) : Nat) : Int))), some (vI (apD μ p (p + 1 + j))), some (vI ((p : Nat) : Int)), some (vI ((((p + 1 + j) : Nat) : Int) + 1)), some (vI (apD μ p (p + 1 + j)))]) hO dX12_show_77 rfl rfl rfl rfl ?_
              refine aw_lsq (ls' := [some (vR 0), some (vI ((10 * ((p : Nat) : Int)) + (((p + 1 + j) : Nat) : Int))), some (vI (apD μ p (p + 1 + j))), some (vI ((p : Nat) : Int)), some (vI ((((p + 1 + j) + 1) : Nat) : Int)), some (vI (apD μ p (p + 1 + j)))]) rfl ?_
              refine aw_goto (tgt := 37) hO dX12_show_80 rfl ?_
              refine aw_fg (ls' := [some (vR 0), some (vI ((10 * (p : Int) + ((p + 1 + j : Nat) : Int), apD μ p (p + 1 + j)) : Int × Int).1), some (vI ((10 * (p : Int) + ((p + 1 + j : Nat) : Int), apD μ p (p + 1 + j)) : Int × Int).2), some (vI ((p : Nat) : Int)), some (vI (((p + 1 + (j + 1)) : Nat) : Int)), none]) ⟨rfl, rfl, rfl, rfl, rfl, trivial⟩ ?_
              exact ih2 (j + 1) ((10 * (p : Int) + ((p + 1 + j : Nat) : Int), apD μ p (p + 1 + j)) : Int × Int) (by omega) (by rw [shI, if_pos (Or.inl (by rw [← ht]; exact c57))])
            · refine aw_iload hO dX12_show_60 rfl rfl ?_
              refine aw_iload_n hO dX12_show_62 rfl rfl ?_
              refine aw_icmp_ge (tgt := 77) hO dX12_show_63 rfl rfl ⟨by omega, by omega⟩ ⟨by omega, by omega⟩ (fun c63 => ?_) (fun c63 => ?_)
              · refine aw_iinc (ls' := [some (vR 0), some (vI t.1), some (vI t.2), some (vI ((p : Nat) : Int)), some (vI ((((p + 1 + j) : Nat) : Int) + 1)), some (vI (apD μ p (p + 1 + j)))]) hO dX12_show_77 rfl rfl rfl rfl ?_
                refine aw_lsq (ls' := [some (vR 0), some (vI t.1), some (vI t.2), some (vI ((p : Nat) : Int)), some (vI ((((p + 1 + j) + 1) : Nat) : Int)), some (vI (apD μ p (p + 1 + j)))]) rfl ?_
                refine aw_goto (tgt := 37) hO dX12_show_80 rfl ?_
                refine aw_fg (ls' := [some (vR 0), some (vI t.1), some (vI t.2), some (vI ((p : Nat) : Int)), some (vI (((p + 1 + (j + 1)) : Nat) : Int)), none]) ⟨rfl, rfl, rfl, rfl, rfl, trivial⟩ ?_
                exact ih2 (j + 1) t (by omega) (by rw [shI, if_neg (fun q => q.elim (fun q => c57 (by rw [ht]; exact q)) (fun q => by rw [← ht] at q; omega))]; exact ht)
              · refine aw_bipush hO dX12_show_66 rfl (by decide) (by decide) ?_
                refine aw_iload_n hO dX12_show_68 rfl rfl ?_
                refine aw_imul hO dX12_show_69 rfl ?_
                refine aw_iload hO dX12_show_70 rfl rfl ?_
                refine aw_iadd hO dX12_show_72 rfl ?_
                refine aw_istore_n (ls' := [some (vR 0), some (vI ((10 * ((p : Nat) : Int)) + (((p + 1 + j) : Nat) : Int))), some (vI t.2), some (vI ((p : Nat) : Int)), some (vI (((p + 1 + j) : Nat) : Int)), some (vI (apD μ p (p + 1 + j)))]) hO dX12_show_73 rfl (Nat.le_of_ble_eq_true rfl) rfl rfl ?_
                refine aw_iload hO dX12_show_74 rfl rfl ?_
                refine aw_istore_n (ls' := [some (vR 0), some (vI ((10 * ((p : Nat) : Int)) + (((p + 1 + j) : Nat) : Int))), some (vI (apD μ p (p + 1 + j))), some (vI ((p : Nat) : Int)), some (vI (((p + 1 + j) : Nat) : Int)), some (vI (apD μ p (p + 1 + j)))]) hO dX12_show_76 rfl (Nat.le_of_ble_eq_true rfl) rfl rfl ?_
                refine aw_iinc (ls' := [some (vR 0), some (vI ((10 * ((p : Nat) : Int)) + (((p + 1 + j) : Nat) : Int))), some (vI (apD μ p (p + 1 + j))), some (vI ((p : Nat) : Int)), some (vI ((((p + 1 + j) : Nat) : Int) + 1)), some (vI (apD μ p (p + 1 + j)))]) hO dX12_show_77 rfl rfl rfl rfl ?_
                refine aw_lsq (ls' := [some (vR 0), some (vI ((10 * ((p : Nat) : Int)) + (((p + 1 + j) : Nat) : Int))), some (vI (apD μ p (p + 1 + j))), some (vI ((p : Nat) : Int)), some (vI ((((p + 1 + j) + 1) : Nat) : Int)), some (vI (apD μ p (p + 1 + j)))]) rfl ?_
                refine aw_goto (tgt := 37) hO dX12_show_80 rfl ?_
                refine aw_fg (ls' := [some (vR 0), some (vI ((10 * (p : Int) + ((p + 1 + j : Nat) : Int), apD μ p (p + 1 + j)) : Int × Int).1), some (vI ((10 * (p : Int) + ((p + 1 + j : Nat) : Int), apD μ p (p + 1 + j)) : Int × Int).2), some (vI ((p : Nat) : Int)), some (vI (((p + 1 + (j + 1)) : Nat) : Int)), none]) ⟨rfl, rfl, rfl, rfl, rfl, trivial⟩ ?_
                exact ih2 (j + 1) ((10 * (p : Int) + ((p + 1 + j : Nat) : Int), apD μ p (p + 1 + j)) : Int × Int) (by omega) (by rw [shI, if_pos (Or.inr (by rw [← ht]; exact c63))])
      refine aw_iload_n hO dX12_show_24 rfl rfl ?_
      refine aw_aload_n hO dX12_show_25 rfl rfl ?_
      refine gM_persons hO dX12_show_26 rfl ?_
      refine aw_icmp_ge (tgt := 89) hO dX12_show_29 rfl rfl (inRn (by omega)) ⟨by omega, by omega⟩ (fun c29 => ?_) (fun c29 => ?_)
      · exact absurd c29 (by omega)
      · refine aw_iload_n hO dX12_show_32 rfl rfl ?_
        refine aw_iconst hO dX12_show_33 rfl ?_
        refine aw_iadd hO dX12_show_34 rfl ?_
        refine aw_istore (ls' := [some (vR 0), some (vI s.1), some (vI s.2), some (vI ((p : Nat) : Int)), some (vI (((p : Nat) : Int) + 1)), none]) hO dX12_show_35 rfl (Nat.le_of_ble_eq_true rfl) rfl rfl ?_
        refine aw_fg (ls' := [some (vR 0), some (vI s.1), some (vI s.2), some (vI ((p : Nat) : Int)), some (vI ((p + 1 + 0 : Nat) : Int)), none]) ⟨rfl, rfl, rfl, rfl, rfl, trivial⟩ ?_
        exact il ((μ.1 0 25).toNat - 1 - p) 0 s (by omega) rfl
  refine aw_aload_n hO dX12_show_0 rfl rfl ?_
  refine gM_persons hO dX12_show_1 rfl ?_
  refine aw_if_eq (tgt := 16) hO dX12_show_4 rfl rfl ⟨by omega, by omega⟩ (fun c4 => ?_) (fun c4 => ?_)
  · refine aw_iconst hO dX12_show_16 rfl ?_
    refine aw_iret hO dX12_show_17 ?_
    exact rI (by rw [if_neg (fun q => q.1 c4)])
  · have hlr : -1 ≤ (if μ.1 0 25 ≠ 0 ∧ -1 ≤ 0 then selG (likB μ) (fun k => (k : Int)) 0 1000 else -1) ∧ (if μ.1 0 25 ≠ 0 ∧ -1 ≤ 0 then selG (likB μ) (fun k => (k : Int)) 0 1000 else -1) ≤ 1000 := lik0_rng μ
    refine aw_aload_n hO dX12_show_7 rfl rfl ?_
    refine aw_iconst hO dX12_show_8 rfl ?_
    refine aw_callVI (as := [vI 0]) (st := []) hO dX12_show_9 rfl (lw_t8 5 rfl rfl) kX12_likings (T := TX12) rfl (by decide) rfl (ctM_likings μ h hN (v := 0) (inRlit _)) (by decide) rfl rfl rfl (Nat.le_of_ble_eq_true rfl) ?_
    refine aw_iconst hO dX12_show_12 rfl ?_
    refine aw_icmp_ne (tgt := 18) hO dX12_show_13 rfl rfl ⟨by have := hlr.1; omega, by have := hlr.2; omega⟩ (inRlit _) (fun c13 => ?_) (fun c13 => ?_)
    · refine aw_iconst hO dX12_show_18 rfl ?_
      refine aw_istore_n (ls' := [some (vR 0), some (vI (-1)), none, none, none, none]) hO dX12_show_19 rfl (Nat.le_of_ble_eq_true rfl) rfl rfl ?_
      refine aw_iconst hO dX12_show_20 rfl ?_
      refine aw_istore_n (ls' := [some (vR 0), some (vI (-1)), some (vI 0), none, none, none]) hO dX12_show_21 rfl (Nat.le_of_ble_eq_true rfl) rfl rfl ?_
      refine aw_iconst hO dX12_show_22 rfl ?_
      refine aw_istore_n (ls' := [some (vR 0), some (vI (-1)), some (vI 0), some (vI 0), none, none]) hO dX12_show_23 rfl (Nat.le_of_ble_eq_true rfl) rfl rfl ?_
      refine aw_lsq (ls' := [some (vR 0), some (vI ((-1, 0) : Int × Int).1), some (vI ((-1, 0) : Int × Int).2), some (vI ((0 : Nat) : Int)), none, none]) rfl ?_
      exact lp ⟨c4, c13⟩ (μ.1 0 25).toNat 0 (-1, 0) (by omega) rfl
    · refine aw_iconst hO dX12_show_16 rfl ?_
      refine aw_iret hO dX12_show_17 ?_
      exact rI (by rw [if_neg (fun q => q.2 c13)])
