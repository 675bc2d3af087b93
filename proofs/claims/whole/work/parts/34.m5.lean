theorem dX12_pickedByHim_0 : decode cX12_pickedByHim 0 = .ok (.iconst (-1), 1) := by decide +kernel
theorem dX12_pickedByHim_1 : decode cX12_pickedByHim 1 = .ok (.istore_n 1, 1) := by decide +kernel
theorem dX12_pickedByHim_2 : decode cX12_pickedByHim 2 = .ok (.iconst 0, 1) := by decide +kernel
theorem dX12_pickedByHim_3 : decode cX12_pickedByHim 3 = .ok (.istore_n 2, 1) := by decide +kernel
theorem dX12_pickedByHim_4 : decode cX12_pickedByHim 4 = .ok (.iload_n 2, 1) := by decide +kernel
theorem dX12_pickedByHim_5 : decode cX12_pickedByHim 5 = .ok (.aload_n 0, 1) := by decide +kernel
theorem dX12_pickedByHim_6 : decode cX12_pickedByHim 6 = .ok (.getfield 242, 3) := by decide +kernel
theorem dX12_pickedByHim_9 : decode cX12_pickedByHim 9 = .ok (.if_icmp .ge 41, 3) := by decide +kernel
theorem dX12_pickedByHim_12 : decode cX12_pickedByHim 12 = .ok (.aload_n 0, 1) := by decide +kernel
theorem dX12_pickedByHim_13 : decode cX12_pickedByHim 13 = .ok (.iload_n 2, 1) := by decide +kernel
theorem dX12_pickedByHim_14 : decode cX12_pickedByHim 14 = .ok (.invokevirtual 283, 3) := by decide +kernel
theorem dX12_pickedByHim_17 : decode cX12_pickedByHim 17 = .ok (.ifCond .eq 25, 3) := by decide +kernel
theorem dX12_pickedByHim_20 : decode cX12_pickedByHim 20 = .ok (.iload_n 1, 1) := by decide +kernel
theorem dX12_pickedByHim_21 : decode cX12_pickedByHim 21 = .ok (.iconst (-1), 1) := by decide +kernel
theorem dX12_pickedByHim_22 : decode cX12_pickedByHim 22 = .ok (.if_icmp .eq 16, 3) := by decide +kernel
theorem dX12_pickedByHim_25 : decode cX12_pickedByHim 25 = .ok (.aload_n 0, 1) := by decide +kernel
theorem dX12_pickedByHim_26 : decode cX12_pickedByHim 26 = .ok (.iload_n 2, 1) := by decide +kernel
theorem dX12_pickedByHim_27 : decode cX12_pickedByHim 27 = .ok (.invokevirtual 286, 3) := by decide +kernel
theorem dX12_pickedByHim_30 : decode cX12_pickedByHim 30 = .ok (.aload_n 0, 1) := by decide +kernel
theorem dX12_pickedByHim_31 : decode cX12_pickedByHim 31 = .ok (.iload_n 1, 1) := by decide +kernel
theorem dX12_pickedByHim_32 : decode cX12_pickedByHim 32 = .ok (.invokevirtual 286, 3) := by decide +kernel
theorem dX12_pickedByHim_35 : decode cX12_pickedByHim 35 = .ok (.if_icmp .le 7, 3) := by decide +kernel
theorem dX12_pickedByHim_38 : decode cX12_pickedByHim 38 = .ok (.iload_n 2, 1) := by decide +kernel
theorem dX12_pickedByHim_39 : decode cX12_pickedByHim 39 = .ok (.goto 4, 3) := by decide +kernel
theorem dX12_pickedByHim_42 : decode cX12_pickedByHim 42 = .ok (.iload_n 1, 1) := by decide +kernel
theorem dX12_pickedByHim_43 : decode cX12_pickedByHim 43 = .ok (.istore_n 1, 1) := by decide +kernel
theorem dX12_pickedByHim_44 : decode cX12_pickedByHim 44 = .ok (.iinc 2 1, 3) := by decide +kernel
theorem dX12_pickedByHim_47 : decode cX12_pickedByHim 47 = .ok (.goto (-43), 3) := by decide +kernel
theorem dX12_pickedByHim_50 : decode cX12_pickedByHim 50 = .ok (.iload_n 1, 1) := by decide +kernel
theorem dX12_pickedByHim_51 : decode cX12_pickedByHim 51 = .ok (.ireturn, 1) := by decide +kernel
set_option maxHeartbeats 4000000 in
set_option maxRecDepth 100000 in
theorem ctM_pickedByHim (μ : Mm) (h : MG μ) : CtE PM 6 yX12_pickedByHim cX12_pickedByHim 3 (some .int) [vR 0] μ (fun v m => v = himM μ (μ.1 0 25).toNat ∧ Sc s9 μ m) := by
  refine ct_intro [some (vR 0), none, none] RX12 (by decide) rfl XM rfl (Nat.le_of_ble_eq_true rfl) (fun K hO => ?_)
  have hnp := h.1.np
  have lp : ∀ (c : Nat) (p : Nat) (b : Int) (m : Mm), ((p : Int) + c = μ.1 0 25) → (b = himM μ p) → (Sc s9 μ m) → AW K 4 [some (vR 0), some (vI b), some (vI ((p : Nat) : Int))] [] m := by
    intro c
    induction c with
    | zero =>
      intro p b m hp hb hS
      have hbr := best_rng (mayM μ) (appealM μ) p
      rw [show best (mayM μ) (appealM μ) p = himM μ p from rfl, ← hb] at hbr
      refine aw_iload_n hO dX12_pickedByHim_4 rfl rfl ?_
      refine aw_aload_n hO dX12_pickedByHim_5 rfl rfl ?_
      refine gM_persons hO dX12_pickedByHim_6 rfl ?_
      refine aw_cg (hS.1 0 25 rfl) ?_
      refine aw_icmp_ge (tgt := 50) hO dX12_pickedByHim_9 rfl rfl (inRn (by omega)) ⟨by omega, by omega⟩ (fun c9 => ?_) (fun c9 => ?_)
      · refine aw_iload_n hO dX12_pickedByHim_50 rfl rfl ?_
        refine aw_iret hO dX12_pickedByHim_51 ?_
        exact ⟨_, rfl, by rw [hb, show (μ.1 0 25).toNat = p by omega], hS⟩
      · exact absurd c9 (by omega)
    | succ c ih =>
      intro p b m hp hb hS
      have hbr := best_rng (mayM μ) (appealM μ) p
      rw [show best (mayM μ) (appealM μ) p = himM μ p from rfl, ← hb] at hbr
      refine aw_iload_n hO dX12_pickedByHim_4 rfl rfl ?_
      refine aw_aload_n hO dX12_pickedByHim_5 rfl rfl ?_
      refine gM_persons hO dX12_pickedByHim_6 rfl ?_
      refine aw_cg (hS.1 0 25 rfl) ?_
      refine aw_icmp_ge (tgt := 50) hO dX12_pickedByHim_9 rfl rfl (inRn (by omega)) ⟨by omega, by omega⟩ (fun c9 => ?_) (fun c9 => ?_)
      · exact absurd c9 (by omega)
      · refine aw_aload_n hO dX12_pickedByHim_12 rfl rfl ?_
        refine aw_iload_n hO dX12_pickedByHim_13 rfl rfl ?_
        refine aw_callVI (as := [vI ((p : Nat) : Int)]) (st := []) hO dX12_pickedByHim_14 rfl (lw_t7 108 rfl rfl) kX12_mayBe (T := TX12) rfl (by decide) rfl (ctM_mayBe m (h.Sc hS).1 (p := p) (by omega)) (by decide) rfl rfl rfl (Nat.le_of_ble_eq_true rfl) ?_
        refine aw_cg (by rw [mayM_Sc hS]) ?_
        refine aw_if_eq (tgt := 42) hO dX12_pickedByHim_17 rfl rfl ⟨by split <;> omega, by split <;> omega⟩ (fun c17 => ?_) (fun c17 => ?_)
        · have c17b : ¬ mayM μ p = true := fun e => by rw [if_pos e] at c17; omega
          refine aw_iload_n hO dX12_pickedByHim_42 rfl rfl ?_
          refine aw_istore_n (ls' := [some (vR 0), some (vI b), some (vI ((p : Nat) : Int))]) hO dX12_pickedByHim_43 rfl (Nat.le_of_ble_eq_true rfl) rfl rfl ?_
          refine aw_iinc (ls' := [some (vR 0), some (vI b), some (vI (((p : Nat) : Int) + 1))]) hO dX12_pickedByHim_44 rfl rfl rfl rfl ?_
          refine aw_lsq (ls' := [some (vR 0), some (vI b), some (vI (((p + 1) : Nat) : Int))]) rfl ?_
          refine aw_goto (tgt := 4) hO dX12_pickedByHim_47 rfl ?_
          refine aw_lsq (ls' := [some (vR 0), some (vI b), some (vI (((p + 1) : Nat) : Int))]) rfl ?_
          exact ih (p + 1) b m (by omega) (by unfold himM at hb ⊢; rw [best_succ, if_neg (fun q => c17b q.1)]; exact hb) hS
        · have c17b : mayM μ p = true := Classical.byContradiction (fun e => c17 (if_neg e))
          refine aw_iload_n hO dX12_pickedByHim_20 rfl rfl ?_
          refine aw_iconst hO dX12_pickedByHim_21 rfl ?_
          refine aw_icmp_eq (tgt := 38) hO dX12_pickedByHim_22 rfl rfl ⟨by omega, by omega⟩ (inRlit _) (fun c22 => ?_) (fun c22 => ?_)
          · refine aw_iload_n hO dX12_pickedByHim_38 rfl rfl ?_
            refine aw_goto (tgt := 43) hO dX12_pickedByHim_39 rfl ?_
            refine aw_istore_n (ls' := [some (vR 0), some (vI ((p : Nat) : Int)), some (vI ((p : Nat) : Int))]) hO dX12_pickedByHim_43 rfl (Nat.le_of_ble_eq_true rfl) rfl rfl ?_
            refine aw_iinc (ls' := [some (vR 0), some (vI ((p : Nat) : Int)), some (vI (((p : Nat) : Int) + 1))]) hO dX12_pickedByHim_44 rfl rfl rfl rfl ?_
            refine aw_lsq (ls' := [some (vR 0), some (vI ((p : Nat) : Int)), some (vI (((p + 1) : Nat) : Int))]) rfl ?_
            refine aw_goto (tgt := 4) hO dX12_pickedByHim_47 rfl ?_
            refine aw_lsq (ls' := [some (vR 0), some (vI ((p : Nat) : Int)), some (vI (((p + 1) : Nat) : Int))]) rfl ?_
            exact ih (p + 1) (p : Int) m (by omega) (by unfold himM at hb ⊢; rw [best_succ, if_pos ⟨c17b, Or.inl (by rw [← hb]; exact c22)⟩]) hS
          · refine aw_aload_n hO dX12_pickedByHim_25 rfl rfl ?_
            refine aw_iload_n hO dX12_pickedByHim_26 rfl rfl ?_
            refine aw_callVE (as := [vI ((p : Nat) : Int)]) (st := []) hO dX12_pickedByHim_27 rfl (lw_t7 112 rfl rfl) kX12_appealOf (T := TX12) rfl (by decide) rfl (ctM_appealOf m (h.Sc hS) (p := p) (by omega)) (by decide) rfl rfl rfl (Nat.le_of_ble_eq_true rfl) (fun v1 μ2 hq3 => ?_)
            obtain ⟨e_v1, s_μ2⟩ := hq3
            rw [appealM_Sc hS] at e_v1
            have hS1 := hS.tr s_μ2
            refine aw_aload_n hO dX12_pickedByHim_30 rfl rfl ?_
            refine aw_iload_n hO dX12_pickedByHim_31 rfl rfl ?_
            refine aw_stq (st' := [vI ((b.toNat : Nat) : Int), vR 0, vI v1]) (by rw [Int.toNat_of_nonneg (by omega)]) ?_
            refine aw_callVE (as := [vI ((b.toNat : Nat) : Int)]) (st := [vI v1]) hO dX12_pickedByHim_32 rfl (lw_t7 112 rfl rfl) kX12_appealOf (T := TX12) rfl (by decide) rfl (ctM_appealOf μ2 (h.Sc hS1) (p := b.toNat) (by omega)) (by decide) rfl rfl rfl (Nat.le_of_ble_eq_true rfl) (fun v4 μ5 hq6 => ?_)
            obtain ⟨e_v4, s_μ5⟩ := hq6
            rw [appealM_Sc hS1] at e_v4
            have hS2 := hS1.tr s_μ5
            have q1 := clamp_R (a := rawM μ p)
            have q2 := clamp_R (a := rawM μ b.toNat)
            rw [show clampI 99 (rawM μ p) = appealM μ p from rfl] at q1
            rw [show clampI 99 (rawM μ b.toNat) = appealM μ b.toNat from rfl] at q2
            refine aw_icmp_le (tgt := 42) hO dX12_pickedByHim_35 rfl rfl ⟨by omega, by omega⟩ ⟨by omega, by omega⟩ (fun c35 => ?_) (fun c35 => ?_)
            · refine aw_iload_n hO dX12_pickedByHim_42 rfl rfl ?_
              refine aw_istore_n (ls' := [some (vR 0), some (vI b), some (vI ((p : Nat) : Int))]) hO dX12_pickedByHim_43 rfl (Nat.le_of_ble_eq_true rfl) rfl rfl ?_
              refine aw_iinc (ls' := [some (vR 0), some (vI b), some (vI (((p : Nat) : Int) + 1))]) hO dX12_pickedByHim_44 rfl rfl rfl rfl ?_
              refine aw_lsq (ls' := [some (vR 0), some (vI b), some (vI (((p + 1) : Nat) : Int))]) rfl ?_
              refine aw_goto (tgt := 4) hO dX12_pickedByHim_47 rfl ?_
              refine aw_lsq (ls' := [some (vR 0), some (vI b), some (vI (((p + 1) : Nat) : Int))]) rfl ?_
              exact ih (p + 1) b μ5 (by omega) (by unfold himM at hb ⊢; rw [best_succ, if_neg (fun q => q.2.elim (fun q => c22 (by rw [hb]; exact q)) (fun q => by rw [← hb, ← e_v1, ← e_v4] at q; omega))]; exact hb) hS2
            · refine aw_iload_n hO dX12_pickedByHim_38 rfl rfl ?_
              refine aw_goto (tgt := 43) hO dX12_pickedByHim_39 rfl ?_
              refine aw_istore_n (ls' := [some (vR 0), some (vI ((p : Nat) : Int)), some (vI ((p : Nat) : Int))]) hO dX12_pickedByHim_43 rfl (Nat.le_of_ble_eq_true rfl) rfl rfl ?_
              refine aw_iinc (ls' := [some (vR 0), some (vI ((p : Nat) : Int)), some (vI (((p : Nat) : Int) + 1))]) hO dX12_pickedByHim_44 rfl rfl rfl rfl ?_
              refine aw_lsq (ls' := [some (vR 0), some (vI ((p : Nat) : Int)), some (vI (((p + 1) : Nat) : Int))]) rfl ?_
              refine aw_goto (tgt := 4) hO dX12_pickedByHim_47 rfl ?_
              refine aw_lsq (ls' := [some (vR 0), some (vI ((p : Nat) : Int)), some (vI (((p + 1) : Nat) : Int))]) rfl ?_
              exact ih (p + 1) (p : Int) μ5 (by omega) (by unfold himM at hb ⊢; rw [best_succ, if_pos ⟨c17b, Or.inr (by rw [← hb, ← e_v1, ← e_v4]; exact c35)⟩]) hS2
  refine aw_iconst hO dX12_pickedByHim_0 rfl ?_
  refine aw_istore_n (ls' := [some (vR 0), some (vI (-1)), none]) hO dX12_pickedByHim_1 rfl (Nat.le_of_ble_eq_true rfl) rfl rfl ?_
  refine aw_iconst hO dX12_pickedByHim_2 rfl ?_
  refine aw_istore_n (ls' := [some (vR 0), some (vI (-1)), some (vI 0)]) hO dX12_pickedByHim_3 rfl (Nat.le_of_ble_eq_true rfl) rfl rfl ?_
  refine aw_lsq (ls' := [some (vR 0), some (vI (-1)), some (vI ((0 : Nat) : Int))]) rfl ?_
  exact lp (μ.1 0 25).toNat 0 (-1) μ (by omega) rfl Sc.rf
theorem dX12_pickedByRest_0 : decode cX12_pickedByRest 0 = .ok (.iconst (-1), 1) := by decide +kernel
theorem dX12_pickedByRest_1 : decode cX12_pickedByRest 1 = .ok (.istore_n 1, 1) := by decide +kernel
theorem dX12_pickedByRest_2 : decode cX12_pickedByRest 2 = .ok (.iconst 0, 1) := by decide +kernel
theorem dX12_pickedByRest_3 : decode cX12_pickedByRest 3 = .ok (.istore_n 2, 1) := by decide +kernel
theorem dX12_pickedByRest_4 : decode cX12_pickedByRest 4 = .ok (.iload_n 2, 1) := by decide +kernel
theorem dX12_pickedByRest_5 : decode cX12_pickedByRest 5 = .ok (.aload_n 0, 1) := by decide +kernel
theorem dX12_pickedByRest_6 : decode cX12_pickedByRest 6 = .ok (.getfield 242, 3) := by decide +kernel
theorem dX12_pickedByRest_9 : decode cX12_pickedByRest 9 = .ok (.if_icmp .ge 43, 3) := by decide +kernel
theorem dX12_pickedByRest_12 : decode cX12_pickedByRest 12 = .ok (.aload_n 0, 1) := by decide +kernel
theorem dX12_pickedByRest_13 : decode cX12_pickedByRest 13 = .ok (.iload_n 2, 1) := by decide +kernel
theorem dX12_pickedByRest_14 : decode cX12_pickedByRest 14 = .ok (.invokevirtual 280, 3) := by decide +kernel
theorem dX12_pickedByRest_17 : decode cX12_pickedByRest 17 = .ok (.ifCond .ne 27, 3) := by decide +kernel
theorem dX12_pickedByRest_20 : decode cX12_pickedByRest 20 = .ok (.iload_n 1, 1) := by decide +kernel
theorem dX12_pickedByRest_21 : decode cX12_pickedByRest 21 = .ok (.iconst (-1), 1) := by decide +kernel
theorem dX12_pickedByRest_22 : decode cX12_pickedByRest 22 = .ok (.if_icmp .eq 18, 3) := by decide +kernel
theorem dX12_pickedByRest_25 : decode cX12_pickedByRest 25 = .ok (.aload_n 0, 1) := by decide +kernel
theorem dX12_pickedByRest_26 : decode cX12_pickedByRest 26 = .ok (.iload_n 2, 1) := by decide +kernel
theorem dX12_pickedByRest_27 : decode cX12_pickedByRest 27 = .ok (.iconst 2, 1) := by decide +kernel
theorem dX12_pickedByRest_28 : decode cX12_pickedByRest 28 = .ok (.invokevirtual 264, 3) := by decide +kernel
theorem dX12_pickedByRest_31 : decode cX12_pickedByRest 31 = .ok (.aload_n 0, 1) := by decide +kernel
theorem dX12_pickedByRest_32 : decode cX12_pickedByRest 32 = .ok (.iload_n 1, 1) := by decide +kernel
theorem dX12_pickedByRest_33 : decode cX12_pickedByRest 33 = .ok (.iconst 2, 1) := by decide +kernel
theorem dX12_pickedByRest_34 : decode cX12_pickedByRest 34 = .ok (.invokevirtual 264, 3) := by decide +kernel
theorem dX12_pickedByRest_37 : decode cX12_pickedByRest 37 = .ok (.if_icmp .le 7, 3) := by decide +kernel
theorem dX12_pickedByRest_40 : decode cX12_pickedByRest 40 = .ok (.iload_n 2, 1) := by decide +kernel
theorem dX12_pickedByRest_41 : decode cX12_pickedByRest 41 = .ok (.goto 4, 3) := by decide +kernel
theorem dX12_pickedByRest_44 : decode cX12_pickedByRest 44 = .ok (.iload_n 1, 1) := by decide +kernel
theorem dX12_pickedByRest_45 : decode cX12_pickedByRest 45 = .ok (.istore_n 1, 1) := by decide +kernel
theorem dX12_pickedByRest_46 : decode cX12_pickedByRest 46 = .ok (.iinc 2 1, 3) := by decide +kernel
theorem dX12_pickedByRest_49 : decode cX12_pickedByRest 49 = .ok (.goto (-45), 3) := by decide +kernel
theorem dX12_pickedByRest_52 : decode cX12_pickedByRest 52 = .ok (.iload_n 1, 1) := by decide +kernel
theorem dX12_pickedByRest_53 : decode cX12_pickedByRest 53 = .ok (.ireturn, 1) := by decide +kernel
set_option maxHeartbeats 4000000 in
set_option maxRecDepth 100000 in
theorem ctM_pickedByRest (μ : Mm) (h : MB μ) : CtI PM 2 yX12_pickedByRest cX12_pickedByRest 3 (some .int) [vR 0] μ (restM μ (μ.1 0 25).toNat) := by
  refine ct_intro [some (vR 0), none, none] RX12 (by decide) rfl XM rfl (Nat.le_of_ble_eq_true rfl) (fun K hO => ?_)
  have hnp := h.np
  have lp : ∀ (c : Nat) (p : Nat) (b : Int), ((p : Int) + c = μ.1 0 25) → (b = restM μ p) → AW K 4 [some (vR 0), some (vI b), some (vI ((p : Nat) : Int))] [] μ := by
    intro c
    induction c with
    | zero =>
      intro p b hp hb
      have hbr := best_rng (fun p => !hasB (μ.1 17 31) p) (fun p => μ.1 15 (4 * p + 2)) p
      rw [show best (fun p => !hasB (μ.1 17 31) p) (fun p => μ.1 15 (4 * p + 2)) p = restM μ p from rfl, ← hb] at hbr
      refine aw_iload_n hO dX12_pickedByRest_4 rfl rfl ?_
      refine aw_aload_n hO dX12_pickedByRest_5 rfl rfl ?_
      refine gM_persons hO dX12_pickedByRest_6 rfl ?_
      refine aw_icmp_ge (tgt := 52) hO dX12_pickedByRest_9 rfl rfl (inRn (by omega)) ⟨by omega, by omega⟩ (fun c9 => ?_) (fun c9 => ?_)
      · refine aw_iload_n hO dX12_pickedByRest_52 rfl rfl ?_
        refine aw_iret hO dX12_pickedByRest_53 ?_
        exact rI (by rw [hb, show (μ.1 0 25).toNat = p by omega])
      · exact absurd c9 (by omega)
    | succ c ih =>
      intro p b hp hb
      have hbr := best_rng (fun p => !hasB (μ.1 17 31) p) (fun p => μ.1 15 (4 * p + 2)) p
      rw [show best (fun p => !hasB (μ.1 17 31) p) (fun p => μ.1 15 (4 * p + 2)) p = restM μ p from rfl, ← hb] at hbr
      refine aw_iload_n hO dX12_pickedByRest_4 rfl rfl ?_
      refine aw_aload_n hO dX12_pickedByRest_5 rfl rfl ?_
      refine gM_persons hO dX12_pickedByRest_6 rfl ?_
      refine aw_icmp_ge (tgt := 52) hO dX12_pickedByRest_9 rfl rfl (inRn (by omega)) ⟨by omega, by omega⟩ (fun c9 => ?_) (fun c9 => ?_)
      · exact absurd c9 (by omega)
      · refine aw_aload_n hO dX12_pickedByRest_12 rfl rfl ?_
        refine aw_iload_n hO dX12_pickedByRest_13 rfl rfl ?_
        refine aw_callVI (as := [vI ((p : Nat) : Int)]) (st := []) hO dX12_pickedByRest_14 rfl (lw_t7 29 rfl rfl) kX12_isAway (T := TX12) rfl (by decide) rfl (ctM_isAway μ p) (by decide) rfl rfl rfl (Nat.le_of_ble_eq_true rfl) ?_
        refine aw_if_ne (tgt := 44) hO dX12_pickedByRest_17 rfl rfl ⟨by split <;> omega, by split <;> omega⟩ (fun c17 => ?_) (fun c17 => ?_)
        · have c17b : ¬ (!hasB (μ.1 17 31) p) = true := by revert c17; cases hasB (μ.1 17 31) p <;> simp
          refine aw_iload_n hO dX12_pickedByRest_44 rfl rfl ?_
          refine aw_istore_n (ls' := [some (vR 0), some (vI b), some (vI ((p : Nat) : Int))]) hO dX12_pickedByRest_45 rfl (Nat.le_of_ble_eq_true rfl) rfl rfl ?_
          refine aw_iinc (ls' := [some (vR 0), some (vI b), some (vI (((p : Nat) : Int) + 1))]) hO dX12_pickedByRest_46 rfl rfl rfl rfl ?_
          refine aw_lsq (ls' := [some (vR 0), some (vI b), some (vI (((p + 1) : Nat) : Int))]) rfl ?_
          refine aw_goto (tgt := 4) hO dX12_pickedByRest_49 rfl ?_
          refine aw_lsq (ls' := [some (vR 0), some (vI b), some (vI (((p + 1) : Nat) : Int))]) rfl ?_
          exact ih (p + 1) b (by omega) (by unfold restM at hb ⊢; rw [best_succ, if_neg (fun q => c17b q.1)]; exact hb)
        · have c17b : (!hasB (μ.1 17 31) p) = true := by revert c17; cases hasB (μ.1 17 31) p <;> simp
          refine aw_iload_n hO dX12_pickedByRest_20 rfl rfl ?_
          refine aw_iconst hO dX12_pickedByRest_21 rfl ?_
          refine aw_icmp_eq (tgt := 40) hO dX12_pickedByRest_22 rfl rfl ⟨by omega, by omega⟩ (inRlit _) (fun c22 => ?_) (fun c22 => ?_)
          · refine aw_iload_n hO dX12_pickedByRest_40 rfl rfl ?_
            refine aw_goto (tgt := 45) hO dX12_pickedByRest_41 rfl ?_
            refine aw_istore_n (ls' := [some (vR 0), some (vI ((p : Nat) : Int)), some (vI ((p : Nat) : Int))]) hO dX12_pickedByRest_45 rfl (Nat.le_of_ble_eq_true rfl) rfl rfl ?_
            refine aw_iinc (ls' := [some (vR 0), some (vI ((p : Nat) : Int)), some (vI (((p : Nat) : Int) + 1))]) hO dX12_pickedByRest_46 rfl rfl rfl rfl ?_
            refine aw_lsq (ls' := [some (vR 0), some (vI ((p : Nat) : Int)), some (vI (((p + 1) : Nat) : Int))]) rfl ?_
            refine aw_goto (tgt := 4) hO dX12_pickedByRest_49 rfl ?_
            refine aw_lsq (ls' := [some (vR 0), some (vI ((p : Nat) : Int)), some (vI (((p + 1) : Nat) : Int))]) rfl ?_
            exact ih (p + 1) (p : Int) (by omega) (by unfold restM at hb ⊢; rw [best_succ, if_pos ⟨c17b, Or.inl (by rw [← hb]; exact c22)⟩])
          · refine aw_aload_n hO dX12_pickedByRest_25 rfl rfl ?_
            refine aw_iload_n hO dX12_pickedByRest_26 rfl rfl ?_
            refine aw_iconst hO dX12_pickedByRest_27 rfl ?_
            refine aw_callVI (as := [vI ((p : Nat) : Int), vI 2]) (st := []) hO dX12_pickedByRest_28 rfl (lw_t7 25 rfl rfl) kX12_of (T := TX12) rfl (by decide) rfl (ctM_of μ (p := p) (k := 2) (by omega) (by omega)) (by decide) rfl rfl rfl (Nat.le_of_ble_eq_true rfl) ?_
            have q1 := h.tra (p := p) (k := 2) (by omega) (by omega)
            refine aw_aload_n hO dX12_pickedByRest_31 rfl rfl ?_
            refine aw_iload_n hO dX12_pickedByRest_32 rfl rfl ?_
            refine aw_iconst hO dX12_pickedByRest_33 rfl ?_
            refine aw_stq (st' := [vI 2, vI ((b.toNat : Nat) : Int), vR 0, vI (μ.1 15 (4 * p + 2))]) (by rw [Int.toNat_of_nonneg (by omega)]) ?_
            refine aw_callVI (as := [vI ((b.toNat : Nat) : Int), vI 2]) (st := [vI (μ.1 15 (4 * p + 2))]) hO dX12_pickedByRest_34 rfl (lw_t7 25 rfl rfl) kX12_of (T := TX12) rfl (by decide) rfl (ctM_of μ (p := b.toNat) (k := 2) (by omega) (by omega)) (by decide) rfl rfl rfl (Nat.le_of_ble_eq_true rfl) ?_
            have q2 := h.tra (p := b.toNat) (k := 2) (by omega) (by omega)
            refine aw_icmp_le (tgt := 44) hO dX12_pickedByRest_37 rfl rfl ⟨by omega, by omega⟩ ⟨by omega, by omega⟩ (fun c37 => ?_) (fun c37 => ?_)
            · refine aw_iload_n hO dX12_pickedByRest_44 rfl rfl ?_
              refine aw_istore_n (ls' := [some (vR 0), some (vI b), some (vI ((p : Nat) : Int))]) hO dX12_pickedByRest_45 rfl (Nat.le_of_ble_eq_true rfl) rfl rfl ?_
              refine aw_iinc (ls' := [some (vR 0), some (vI b), some (vI (((p : Nat) : Int) + 1))]) hO dX12_pickedByRest_46 rfl rfl rfl rfl ?_
              refine aw_lsq (ls' := [some (vR 0), some (vI b), some (vI (((p + 1) : Nat) : Int))]) rfl ?_
              refine aw_goto (tgt := 4) hO dX12_pickedByRest_49 rfl ?_
              refine aw_lsq (ls' := [some (vR 0), some (vI b), some (vI (((p + 1) : Nat) : Int))]) rfl ?_
              exact ih (p + 1) b (by omega) (by unfold restM at hb ⊢; rw [best_succ, if_neg (fun q => q.2.elim (fun q => c22 (by rw [hb]; exact q)) (fun q => by rw [← hb] at q; first | omega | (dsimp only at q; omega)))]; exact hb)
            · refine aw_iload_n hO dX12_pickedByRest_40 rfl rfl ?_
              refine aw_goto (tgt := 45) hO dX12_pickedByRest_41 rfl ?_
              refine aw_istore_n (ls' := [some (vR 0), some (vI ((p : Nat) : Int)), some (vI ((p : Nat) : Int))]) hO dX12_pickedByRest_45 rfl (Nat.le_of_ble_eq_true rfl) rfl rfl ?_
              refine aw_iinc (ls' := [some (vR 0), some (vI ((p : Nat) : Int)), some (vI (((p : Nat) : Int) + 1))]) hO dX12_pickedByRest_46 rfl rfl rfl rfl ?_
              refine aw_lsq (ls' := [some (vR 0), some (vI ((p : Nat) : Int)), some (vI (((p + 1) : Nat) : Int))]) rfl ?_
              refine aw_goto (tgt := 4) hO dX12_pickedByRest_49 rfl ?_
              refine aw_lsq (ls' := [some (vR 0), some (vI ((p : Nat) : Int)), some (vI (((p + 1) : Nat) : Int))]) rfl ?_
              exact ih (p + 1) (p : Int) (by omega) (by unfold restM at hb ⊢; rw [best_succ, if_pos ⟨c17b, Or.inr (by rw [← hb]; exact c37)⟩])
  refine aw_iconst hO dX12_pickedByRest_0 rfl ?_
  refine aw_istore_n (ls' := [some (vR 0), some (vI (-1)), none]) hO dX12_pickedByRest_1 rfl (Nat.le_of_ble_eq_true rfl) rfl rfl ?_
  refine aw_iconst hO dX12_pickedByRest_2 rfl ?_
  refine aw_istore_n (ls' := [some (vR 0), some (vI (-1)), some (vI 0)]) hO dX12_pickedByRest_3 rfl (Nat.le_of_ble_eq_true rfl) rfl rfl ?_
  refine aw_lsq (ls' := [some (vR 0), some (vI (-1)), some (vI ((0 : Nat) : Int))]) rfl ?_
  exact lp (μ.1 0 25).toNat 0 (-1) (by omega) rfl
theorem dX12_picked_0 : decode cX12_picked 0 = .ok (.aload_n 0, 1) := by decide +kernel
theorem dX12_picked_1 : decode cX12_picked 1 = .ok (.invokevirtual 289, 3) := by decide +kernel
theorem dX12_picked_4 : decode cX12_picked 4 = .ok (.istore_n 1, 1) := by decide +kernel
theorem dX12_picked_5 : decode cX12_picked 5 = .ok (.iload_n 1, 1) := by decide +kernel
theorem dX12_picked_6 : decode cX12_picked 6 = .ok (.iconst (-1), 1) := by decide +kernel
theorem dX12_picked_7 : decode cX12_picked 7 = .ok (.if_icmp .ne 10, 3) := by decide +kernel
theorem dX12_picked_10 : decode cX12_picked 10 = .ok (.aload_n 0, 1) := by decide +kernel
theorem dX12_picked_11 : decode cX12_picked 11 = .ok (.invokevirtual 292, 3) := by decide +kernel
theorem dX12_picked_14 : decode cX12_picked 14 = .ok (.goto 4, 3) := by decide +kernel
theorem dX12_picked_17 : decode cX12_picked 17 = .ok (.iload_n 1, 1) := by decide +kernel
theorem dX12_picked_18 : decode cX12_picked 18 = .ok (.ireturn, 1) := by decide +kernel
set_option maxHeartbeats 4000000 in
set_option maxRecDepth 100000 in
theorem ctM_picked (μ : Mm) (h : MG μ) : CtE PM 7 yX12_picked cX12_picked 2 (some .int) [vR 0] μ (fun v m => v = pickM μ (μ.1 0 25).toNat ∧ Sc s9 μ m) := by
  refine ct_intro [some (vR 0), none] RX12 (by decide) rfl XM rfl (Nat.le_of_ble_eq_true rfl) (fun K hO => ?_)
  refine aw_aload_n hO dX12_picked_0 rfl rfl ?_
  refine aw_callVE (as := []) (st := []) hO dX12_picked_1 rfl (lw_t7 104 rfl rfl) kX12_pickedByHim (T := TX12) rfl (by decide) rfl (ctM_pickedByHim μ h) (by decide) rfl rfl rfl (Nat.le_of_ble_eq_true rfl) (fun v1 μ2 hq3 => ?_)
  obtain ⟨e_v1, s_μ2⟩ := hq3
  have q1 := best_rng (mayM μ) (appealM μ) (μ.1 0 25).toNat
  rw [show best (mayM μ) (appealM μ) (μ.1 0 25).toNat = himM μ (μ.1 0 25).toNat from rfl, ← e_v1] at q1
  have hnp := h.1.np
  refine aw_istore_n (ls' := [some (vR 0), some (vI v1)]) hO dX12_picked_4 rfl (Nat.le_of_ble_eq_true rfl) rfl rfl ?_
  refine aw_iload_n hO dX12_picked_5 rfl rfl ?_
  refine aw_iconst hO dX12_picked_6 rfl ?_
  refine aw_icmp_ne (tgt := 17) hO dX12_picked_7 rfl rfl ⟨by omega, by omega⟩ (inRlit _) (fun c7 => ?_) (fun c7 => ?_)
  · refine aw_iload_n hO dX12_picked_17 rfl rfl ?_
    refine aw_iret hO dX12_picked_18 ?_
    exact ⟨_, rfl, by unfold pickM; rw [if_neg (by rw [← e_v1]; exact c7)]; exact e_v1, s_μ2⟩
  · refine aw_aload_n hO dX12_picked_10 rfl rfl ?_
    refine aw_callVI (as := []) (st := []) hO dX12_picked_11 rfl (lw_t7 145 rfl rfl) kX12_pickedByRest (T := TX12) rfl (by decide) rfl (ctM_pickedByRest μ2 (h.Sc s_μ2).1) (by decide) rfl rfl rfl (Nat.le_of_ble_eq_true rfl) ?_
    refine aw_goto (tgt := 18) hO dX12_picked_14 rfl ?_
    refine aw_iret hO dX12_picked_18 ?_
    exact ⟨_, rfl, by unfold pickM; rw [if_pos (by rw [← e_v1]; exact c7)]; rw [restM_Sc s_μ2, s_μ2.fn (k := 0) rfl], s_μ2⟩
