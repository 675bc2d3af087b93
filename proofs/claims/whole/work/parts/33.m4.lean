theorem dX12_seems_0 : decode cX12_seems 0 = .ok (.iload_n 2, 1) := by decide +kernel
theorem dX12_seems_1 : decode cX12_seems 1 = .ok (.iconst 2, 1) := by decide +kernel
theorem dX12_seems_2 : decode cX12_seems 2 = .ok (.if_icmp .ne 12, 3) := by decide +kernel
theorem dX12_seems_5 : decode cX12_seems 5 = .ok (.aload_n 0, 1) := by decide +kernel
theorem dX12_seems_6 : decode cX12_seems 6 = .ok (.iload_n 1, 1) := by decide +kernel
theorem dX12_seems_7 : decode cX12_seems 7 = .ok (.iconst 2, 1) := by decide +kernel
theorem dX12_seems_8 : decode cX12_seems 8 = .ok (.invokevirtual 264, 3) := by decide +kernel
theorem dX12_seems_11 : decode cX12_seems 11 = .ok (.goto 30, 3) := by decide +kernel
theorem dX12_seems_14 : decode cX12_seems 14 = .ok (.bipush 9, 2) := by decide +kernel
theorem dX12_seems_16 : decode cX12_seems 16 = .ok (.aload_n 0, 1) := by decide +kernel
theorem dX12_seems_17 : decode cX12_seems 17 = .ok (.iload_n 1, 1) := by decide +kernel
theorem dX12_seems_18 : decode cX12_seems 18 = .ok (.iload_n 2, 1) := by decide +kernel
theorem dX12_seems_19 : decode cX12_seems 19 = .ok (.invokevirtual 264, 3) := by decide +kernel
theorem dX12_seems_22 : decode cX12_seems 22 = .ok (.iconst 2, 1) := by decide +kernel
theorem dX12_seems_23 : decode cX12_seems 23 = .ok (.aload_n 0, 1) := by decide +kernel
theorem dX12_seems_24 : decode cX12_seems 24 = .ok (.getfield 58, 3) := by decide +kernel
theorem dX12_seems_27 : decode cX12_seems 27 = .ok (.bipush 6, 2) := by decide +kernel
theorem dX12_seems_29 : decode cX12_seems 29 = .ok (.iconst 2, 1) := by decide +kernel
theorem dX12_seems_30 : decode cX12_seems 30 = .ok (.iload_n 1, 1) := by decide +kernel
theorem dX12_seems_31 : decode cX12_seems 31 = .ok (.imul, 1) := by decide +kernel
theorem dX12_seems_32 : decode cX12_seems 32 = .ok (.iadd, 1) := by decide +kernel
theorem dX12_seems_33 : decode cX12_seems 33 = .ok (.iload_n 2, 1) := by decide +kernel
theorem dX12_seems_34 : decode cX12_seems 34 = .ok (.iadd, 1) := by decide +kernel
theorem dX12_seems_35 : decode cX12_seems 35 = .ok (.iaload, 1) := by decide +kernel
theorem dX12_seems_36 : decode cX12_seems 36 = .ok (.imul, 1) := by decide +kernel
theorem dX12_seems_37 : decode cX12_seems 37 = .ok (.iadd, 1) := by decide +kernel
theorem dX12_seems_38 : decode cX12_seems 38 = .ok (.invokestatic 267, 3) := by decide +kernel
theorem dX12_seems_41 : decode cX12_seems 41 = .ok (.ireturn, 1) := by decide +kernel
set_option maxHeartbeats 4000000 in
set_option maxRecDepth 100000 in
theorem ctM_seems (μ : Mm) (h : MB μ) {p k : Nat} (hp : p < 6) (hk : k < 3) : CtI PM 1 yX12_seems cX12_seems 3 (some .int) [vR 0, vI ((p : Nat) : Int), vI ((k : Nat) : Int)] μ (seemsM μ p k) := by
  refine ct_intro [some (vR 0), some (vI ((p : Nat) : Int)), some (vI ((k : Nat) : Int))] RX12 (by decide) rfl XM rfl (Nat.le_of_ble_eq_true rfl) (fun K hO => ?_)
  have ha := h.tra hp hk
  refine aw_iload_n hO dX12_seems_0 rfl rfl ?_
  refine aw_iconst hO dX12_seems_1 rfl ?_
  refine aw_icmp_ne (tgt := 14) hO dX12_seems_2 rfl rfl (inRn (by omega)) (inRlit _) (fun c2 => ?_) (fun c2 => ?_)
  · have hf := h.now.fei (j := 6 + 2 * p + k) (by omega) (by omega)
    refine aw_bipush hO dX12_seems_14 rfl (by decide) (by decide) ?_
    refine aw_aload_n hO dX12_seems_16 rfl rfl ?_
    refine aw_iload_n hO dX12_seems_17 rfl rfl ?_
    refine aw_iload_n hO dX12_seems_18 rfl rfl ?_
    refine aw_callVI (as := [vI ((p : Nat) : Int), vI ((k : Nat) : Int)]) (st := [vI 9]) hO dX12_seems_19 rfl (lw_t7 25 rfl rfl) kX12_of (T := TX12) rfl (by decide) rfl (ctM_of μ (p := p) (k := k) (by omega) (by omega)) (by decide) rfl rfl rfl (Nat.le_of_ble_eq_true rfl) ?_
    refine aw_iconst hO dX12_seems_22 rfl ?_
    refine aw_aload_n hO dX12_seems_23 rfl rfl ?_
    refine gM_now hO dX12_seems_24 rfl ?_
    refine aw_bipush hO dX12_seems_27 rfl (by decide) (by decide) ?_
    refine aw_iconst hO dX12_seems_29 rfl ?_
    refine aw_iload_n hO dX12_seems_30 rfl rfl ?_
    refine aw_imul hO dX12_seems_31 rfl ?_
    refine aw_iadd hO dX12_seems_32 rfl ?_
    refine aw_iload_n hO dX12_seems_33 rfl rfl ?_
    refine aw_iadd hO dX12_seems_34 rfl ?_
    refine aw_ialdn (N := 218) (i := ((6 + (2 * p)) + k)) hO dX12_seems_35 rfl (by decide) rfl (by decide) (by omega) (by omega) ?_
    refine aw_imul hO dX12_seems_36 rfl ?_
    refine aw_iadd hO dX12_seems_37 rfl ?_
    refine aw_mmin hO dX12_seems_38 rfl (lw_t7 37 rfl rfl) mth_min (by decide) rfl (Nat.le_of_ble_eq_true rfl) (inRlit _) ⟨by omega, by omega⟩ ?_
    refine aw_iret hO dX12_seems_41 ?_
    exact rI (by unfold seemsM; rw [if_neg (by omega)])
  · refine aw_aload_n hO dX12_seems_5 rfl rfl ?_
    refine aw_iload_n hO dX12_seems_6 rfl rfl ?_
    refine aw_iconst hO dX12_seems_7 rfl ?_
    refine aw_callVI (as := [vI ((p : Nat) : Int), vI 2]) (st := []) hO dX12_seems_8 rfl (lw_t7 25 rfl rfl) kX12_of (T := TX12) rfl (by decide) rfl (ctM_of μ (p := p) (k := 2) (by omega) (by omega)) (by decide) rfl rfl rfl (Nat.le_of_ble_eq_true rfl) ?_
    refine aw_goto (tgt := 41) hO dX12_seems_11 rfl ?_
    refine aw_iret hO dX12_seems_41 ?_
    exact rI (by unfold seemsM; rw [if_pos (by omega)])
theorem dX12_mayBe_0 : decode cX12_mayBe 0 = .ok (.aload_n 0, 1) := by decide +kernel
theorem dX12_mayBe_1 : decode cX12_mayBe 1 = .ok (.iload_n 1, 1) := by decide +kernel
theorem dX12_mayBe_2 : decode cX12_mayBe 2 = .ok (.invokevirtual 280, 3) := by decide +kernel
theorem dX12_mayBe_5 : decode cX12_mayBe 5 = .ok (.ifCond .ne 18, 3) := by decide +kernel
theorem dX12_mayBe_8 : decode cX12_mayBe 8 = .ok (.aload_n 0, 1) := by decide +kernel
theorem dX12_mayBe_9 : decode cX12_mayBe 9 = .ok (.getfield 58, 3) := by decide +kernel
theorem dX12_mayBe_12 : decode cX12_mayBe 12 = .ok (.iconst 0, 1) := by decide +kernel
theorem dX12_mayBe_13 : decode cX12_mayBe 13 = .ok (.iload_n 1, 1) := by decide +kernel
theorem dX12_mayBe_14 : decode cX12_mayBe 14 = .ok (.iadd, 1) := by decide +kernel
theorem dX12_mayBe_15 : decode cX12_mayBe 15 = .ok (.iaload, 1) := by decide +kernel
theorem dX12_mayBe_16 : decode cX12_mayBe 16 = .ok (.ifCond .le 7, 3) := by decide +kernel
theorem dX12_mayBe_19 : decode cX12_mayBe 19 = .ok (.iconst 1, 1) := by decide +kernel
theorem dX12_mayBe_20 : decode cX12_mayBe 20 = .ok (.goto 4, 3) := by decide +kernel
theorem dX12_mayBe_23 : decode cX12_mayBe 23 = .ok (.iconst 0, 1) := by decide +kernel
theorem dX12_mayBe_24 : decode cX12_mayBe 24 = .ok (.ireturn, 1) := by decide +kernel
set_option maxHeartbeats 4000000 in
set_option maxRecDepth 100000 in
theorem ctM_mayBe (μ : Mm) (h : MB μ) {p : Nat} (hp : p < 6) : CtI PM 2 yX12_mayBe cX12_mayBe 2 (some .boolean) [vR 0, vI ((p : Nat) : Int)] μ (if mayM μ p = true then 1 else 0) := by
  refine ct_intro [some (vR 0), some (vI ((p : Nat) : Int))] RX12 (by decide) rfl XM rfl (Nat.le_of_ble_eq_true rfl) (fun K hO => ?_)
  have ha := h.now.met hp
  refine aw_aload_n hO dX12_mayBe_0 rfl rfl ?_
  refine aw_iload_n hO dX12_mayBe_1 rfl rfl ?_
  refine aw_callVI (as := [vI ((p : Nat) : Int)]) (st := []) hO dX12_mayBe_2 rfl (lw_t7 29 rfl rfl) kX12_isAway (T := TX12) rfl (by decide) rfl (ctM_isAway μ p) (by decide) rfl rfl rfl (Nat.le_of_ble_eq_true rfl) ?_
  refine aw_if_ne (tgt := 23) hO dX12_mayBe_5 rfl rfl ⟨by split <;> omega, by split <;> omega⟩ (fun c5 => ?_) (fun c5 => ?_)
  · have c5b : hasB (μ.1 17 31) p = true := by revert c5; cases hasB (μ.1 17 31) p <;> simp
    refine aw_iconst hO dX12_mayBe_23 rfl ?_
    refine aw_zret hO dX12_mayBe_24 (Or.inl rfl) ?_
    exact rI (by unfold mayM; first | (rw [c5b]; rfl) | (rw [c5b, if_pos (by simp; omega)]) | (rw [c5b, if_neg (by simp; omega)]))
  · have c5b : hasB (μ.1 17 31) p = false := by revert c5; cases hasB (μ.1 17 31) p <;> simp
    refine aw_aload_n hO dX12_mayBe_8 rfl rfl ?_
    refine gM_now hO dX12_mayBe_9 rfl ?_
    refine aw_iconst hO dX12_mayBe_12 rfl ?_
    refine aw_iload_n hO dX12_mayBe_13 rfl rfl ?_
    refine aw_iadd hO dX12_mayBe_14 rfl ?_
    refine aw_ialdn (N := 218) (i := p) hO dX12_mayBe_15 rfl (by decide) rfl (by decide) (by omega) (by omega) ?_
    refine aw_if_le (tgt := 23) hO dX12_mayBe_16 rfl rfl ⟨by omega, by omega⟩ (fun c16 => ?_) (fun c16 => ?_)
    · refine aw_iconst hO dX12_mayBe_23 rfl ?_
      refine aw_zret hO dX12_mayBe_24 (Or.inl rfl) ?_
      exact rI (by unfold mayM; first | (rw [c5b]; rfl) | (rw [c5b, if_pos (by simp; omega)]) | (rw [c5b, if_neg (by simp; omega)]))
    · refine aw_iconst hO dX12_mayBe_19 rfl ?_
      refine aw_goto (tgt := 24) hO dX12_mayBe_20 rfl ?_
      refine aw_zret hO dX12_mayBe_24 (Or.inr rfl) ?_
      exact rI (by unfold mayM; first | (rw [c5b]; rfl) | (rw [c5b, if_pos (by simp; omega)]) | (rw [c5b, if_neg (by simp; omega)]))

theorem seems_rng {μ : Mm} (h : MB μ) {p k : Nat} (hp : p < 6) (hk : k < 3) : 0 ≤ seemsM μ p k ∧ seemsM μ p k ≤ 99 := by
  have ha := h.tra hp hk
  unfold seemsM
  split
  · have := h.tra hp (k := 2) (by omega); exact this
  · have hf := h.now.fei (j := 6 + 2 * p + k) (by omega) (by omega)
    omega
theorem mul81 {a b : Int} (h1 : 0 ≤ a) (h2 : a ≤ 9) (h3 : 0 ≤ b) (h4 : b ≤ 99) : 0 ≤ a * b ∧ a * b ≤ 891 := ⟨Int.mul_nonneg h1 h3, Int.mul_le_mul h2 h4 h3 (by omega)⟩
theorem dX12_appealOf_0 : decode cX12_appealOf 0 = .ok (.aload_n 0, 1) := by decide +kernel
theorem dX12_appealOf_1 : decode cX12_appealOf 1 = .ok (.getfield 49, 3) := by decide +kernel
theorem dX12_appealOf_4 : decode cX12_appealOf 4 = .ok (.iconst 0, 1) := by decide +kernel
theorem dX12_appealOf_5 : decode cX12_appealOf 5 = .ok (.iaload, 1) := by decide +kernel
theorem dX12_appealOf_6 : decode cX12_appealOf 6 = .ok (.aload_n 0, 1) := by decide +kernel
theorem dX12_appealOf_7 : decode cX12_appealOf 7 = .ok (.iload_n 1, 1) := by decide +kernel
theorem dX12_appealOf_8 : decode cX12_appealOf 8 = .ok (.iconst 0, 1) := by decide +kernel
theorem dX12_appealOf_9 : decode cX12_appealOf 9 = .ok (.invokevirtual 271, 3) := by decide +kernel
theorem dX12_appealOf_12 : decode cX12_appealOf 12 = .ok (.imul, 1) := by decide +kernel
theorem dX12_appealOf_13 : decode cX12_appealOf 13 = .ok (.aload_n 0, 1) := by decide +kernel
theorem dX12_appealOf_14 : decode cX12_appealOf 14 = .ok (.getfield 49, 3) := by decide +kernel
theorem dX12_appealOf_17 : decode cX12_appealOf 17 = .ok (.iconst 1, 1) := by decide +kernel
theorem dX12_appealOf_18 : decode cX12_appealOf 18 = .ok (.iaload, 1) := by decide +kernel
theorem dX12_appealOf_19 : decode cX12_appealOf 19 = .ok (.aload_n 0, 1) := by decide +kernel
theorem dX12_appealOf_20 : decode cX12_appealOf 20 = .ok (.iload_n 1, 1) := by decide +kernel
theorem dX12_appealOf_21 : decode cX12_appealOf 21 = .ok (.iconst 1, 1) := by decide +kernel
theorem dX12_appealOf_22 : decode cX12_appealOf 22 = .ok (.invokevirtual 271, 3) := by decide +kernel
theorem dX12_appealOf_25 : decode cX12_appealOf 25 = .ok (.imul, 1) := by decide +kernel
theorem dX12_appealOf_26 : decode cX12_appealOf 26 = .ok (.iadd, 1) := by decide +kernel
theorem dX12_appealOf_27 : decode cX12_appealOf 27 = .ok (.aload_n 0, 1) := by decide +kernel
theorem dX12_appealOf_28 : decode cX12_appealOf 28 = .ok (.getfield 49, 3) := by decide +kernel
theorem dX12_appealOf_31 : decode cX12_appealOf 31 = .ok (.iconst 2, 1) := by decide +kernel
theorem dX12_appealOf_32 : decode cX12_appealOf 32 = .ok (.iaload, 1) := by decide +kernel
theorem dX12_appealOf_33 : decode cX12_appealOf 33 = .ok (.aload_n 0, 1) := by decide +kernel
theorem dX12_appealOf_34 : decode cX12_appealOf 34 = .ok (.iload_n 1, 1) := by decide +kernel
theorem dX12_appealOf_35 : decode cX12_appealOf 35 = .ok (.iconst 2, 1) := by decide +kernel
theorem dX12_appealOf_36 : decode cX12_appealOf 36 = .ok (.invokevirtual 264, 3) := by decide +kernel
theorem dX12_appealOf_39 : decode cX12_appealOf 39 = .ok (.imul, 1) := by decide +kernel
theorem dX12_appealOf_40 : decode cX12_appealOf 40 = .ok (.isub, 1) := by decide +kernel
theorem dX12_appealOf_41 : decode cX12_appealOf 41 = .ok (.istore_n 2, 1) := by decide +kernel
theorem dX12_appealOf_42 : decode cX12_appealOf 42 = .ok (.aload_n 0, 1) := by decide +kernel
theorem dX12_appealOf_43 : decode cX12_appealOf 43 = .ok (.getfield 64, 3) := by decide +kernel
theorem dX12_appealOf_46 : decode cX12_appealOf 46 = .ok (.iconst (-1), 1) := by decide +kernel
theorem dX12_appealOf_47 : decode cX12_appealOf 47 = .ok (.if_icmp .eq 93, 3) := by decide +kernel
theorem dX12_appealOf_50 : decode cX12_appealOf 50 = .ok (.aload_n 0, 1) := by decide +kernel
theorem dX12_appealOf_51 : decode cX12_appealOf 51 = .ok (.getfield 34, 3) := by decide +kernel
theorem dX12_appealOf_54 : decode cX12_appealOf 54 = .ok (.iconst 0, 1) := by decide +kernel
theorem dX12_appealOf_55 : decode cX12_appealOf 55 = .ok (.aload_n 0, 1) := by decide +kernel
theorem dX12_appealOf_56 : decode cX12_appealOf 56 = .ok (.iload_n 1, 1) := by decide +kernel
theorem dX12_appealOf_57 : decode cX12_appealOf 57 = .ok (.iconst 0, 1) := by decide +kernel
theorem dX12_appealOf_58 : decode cX12_appealOf 58 = .ok (.invokevirtual 271, 3) := by decide +kernel
theorem dX12_appealOf_61 : decode cX12_appealOf 61 = .ok (.iastore, 1) := by decide +kernel
theorem dX12_appealOf_62 : decode cX12_appealOf 62 = .ok (.aload_n 0, 1) := by decide +kernel
theorem dX12_appealOf_63 : decode cX12_appealOf 63 = .ok (.getfield 34, 3) := by decide +kernel
theorem dX12_appealOf_66 : decode cX12_appealOf 66 = .ok (.iconst 1, 1) := by decide +kernel
theorem dX12_appealOf_67 : decode cX12_appealOf 67 = .ok (.aload_n 0, 1) := by decide +kernel
theorem dX12_appealOf_68 : decode cX12_appealOf 68 = .ok (.iload_n 1, 1) := by decide +kernel
theorem dX12_appealOf_69 : decode cX12_appealOf 69 = .ok (.iconst 1, 1) := by decide +kernel
theorem dX12_appealOf_70 : decode cX12_appealOf 70 = .ok (.invokevirtual 271, 3) := by decide +kernel
theorem dX12_appealOf_73 : decode cX12_appealOf 73 = .ok (.iastore, 1) := by decide +kernel
theorem dX12_appealOf_74 : decode cX12_appealOf 74 = .ok (.aload_n 0, 1) := by decide +kernel
theorem dX12_appealOf_75 : decode cX12_appealOf 75 = .ok (.getfield 34, 3) := by decide +kernel
theorem dX12_appealOf_78 : decode cX12_appealOf 78 = .ok (.iconst 2, 1) := by decide +kernel
theorem dX12_appealOf_79 : decode cX12_appealOf 79 = .ok (.aload_n 0, 1) := by decide +kernel
theorem dX12_appealOf_80 : decode cX12_appealOf 80 = .ok (.iload_n 1, 1) := by decide +kernel
theorem dX12_appealOf_81 : decode cX12_appealOf 81 = .ok (.iconst 2, 1) := by decide +kernel
theorem dX12_appealOf_82 : decode cX12_appealOf 82 = .ok (.invokevirtual 264, 3) := by decide +kernel
theorem dX12_appealOf_85 : decode cX12_appealOf 85 = .ok (.iastore, 1) := by decide +kernel
theorem dX12_appealOf_86 : decode cX12_appealOf 86 = .ok (.aload_n 0, 1) := by decide +kernel
theorem dX12_appealOf_87 : decode cX12_appealOf 87 = .ok (.getfield 34, 3) := by decide +kernel
theorem dX12_appealOf_90 : decode cX12_appealOf 90 = .ok (.iconst 3, 1) := by decide +kernel
theorem dX12_appealOf_91 : decode cX12_appealOf 91 = .ok (.aload_n 0, 1) := by decide +kernel
theorem dX12_appealOf_92 : decode cX12_appealOf 92 = .ok (.getfield 58, 3) := by decide +kernel
theorem dX12_appealOf_95 : decode cX12_appealOf 95 = .ok (.iconst 0, 1) := by decide +kernel
theorem dX12_appealOf_96 : decode cX12_appealOf 96 = .ok (.iload_n 1, 1) := by decide +kernel
theorem dX12_appealOf_97 : decode cX12_appealOf 97 = .ok (.iadd, 1) := by decide +kernel
theorem dX12_appealOf_98 : decode cX12_appealOf 98 = .ok (.iaload, 1) := by decide +kernel
theorem dX12_appealOf_99 : decode cX12_appealOf 99 = .ok (.iastore, 1) := by decide +kernel
theorem dX12_appealOf_100 : decode cX12_appealOf 100 = .ok (.aload_n 0, 1) := by decide +kernel
theorem dX12_appealOf_101 : decode cX12_appealOf 101 = .ok (.getfield 34, 3) := by decide +kernel
theorem dX12_appealOf_104 : decode cX12_appealOf 104 = .ok (.iconst 4, 1) := by decide +kernel
theorem dX12_appealOf_105 : decode cX12_appealOf 105 = .ok (.aload_n 0, 1) := by decide +kernel
theorem dX12_appealOf_106 : decode cX12_appealOf 106 = .ok (.getfield 58, 3) := by decide +kernel
theorem dX12_appealOf_109 : decode cX12_appealOf 109 = .ok (.bipush 18, 2) := by decide +kernel
theorem dX12_appealOf_111 : decode cX12_appealOf 111 = .ok (.iload_n 1, 1) := by decide +kernel
theorem dX12_appealOf_112 : decode cX12_appealOf 112 = .ok (.iadd, 1) := by decide +kernel
theorem dX12_appealOf_113 : decode cX12_appealOf 113 = .ok (.iaload, 1) := by decide +kernel
theorem dX12_appealOf_114 : decode cX12_appealOf 114 = .ok (.iastore, 1) := by decide +kernel
theorem dX12_appealOf_115 : decode cX12_appealOf 115 = .ok (.aload_n 0, 1) := by decide +kernel
theorem dX12_appealOf_116 : decode cX12_appealOf 116 = .ok (.getfield 34, 3) := by decide +kernel
theorem dX12_appealOf_119 : decode cX12_appealOf 119 = .ok (.iconst 5, 1) := by decide +kernel
theorem dX12_appealOf_120 : decode cX12_appealOf 120 = .ok (.aload_n 0, 1) := by decide +kernel
theorem dX12_appealOf_121 : decode cX12_appealOf 121 = .ok (.getfield 58, 3) := by decide +kernel
theorem dX12_appealOf_124 : decode cX12_appealOf 124 = .ok (.bipush 36, 2) := by decide +kernel
theorem dX12_appealOf_126 : decode cX12_appealOf 126 = .ok (.iaload, 1) := by decide +kernel
theorem dX12_appealOf_127 : decode cX12_appealOf 127 = .ok (.bipush 100, 2) := by decide +kernel
theorem dX12_appealOf_129 : decode cX12_appealOf 129 = .ok (.irem, 1) := by decide +kernel
theorem dX12_appealOf_130 : decode cX12_appealOf 130 = .ok (.iastore, 1) := by decide +kernel
theorem dX12_appealOf_131 : decode cX12_appealOf 131 = .ok (.aload_n 0, 1) := by decide +kernel
theorem dX12_appealOf_132 : decode cX12_appealOf 132 = .ok (.aload_n 0, 1) := by decide +kernel
theorem dX12_appealOf_133 : decode cX12_appealOf 133 = .ok (.getfield 64, 3) := by decide +kernel
theorem dX12_appealOf_136 : decode cX12_appealOf 136 = .ok (.invokevirtual 274, 3) := by decide +kernel
theorem dX12_appealOf_139 : decode cX12_appealOf 139 = .ok (.istore_n 2, 1) := by decide +kernel
theorem dX12_appealOf_140 : decode cX12_appealOf 140 = .ok (.iload_n 2, 1) := by decide +kernel
theorem dX12_appealOf_141 : decode cX12_appealOf 141 = .ok (.invokestatic 277, 3) := by decide +kernel
theorem dX12_appealOf_144 : decode cX12_appealOf 144 = .ok (.ireturn, 1) := by decide +kernel
set_option maxHeartbeats 4000000 in
set_option maxRecDepth 100000 in
theorem ctM_appealOf (μ : Mm) (h : MG μ) {p : Nat} (hp : p < 6) : CtE PM 5 yX12_appealOf cX12_appealOf 3 (some .int) [vR 0, vI ((p : Nat) : Int)] μ (fun v m => v = appealM μ p ∧ Sc s9 μ m) := by
  refine ct_intro [some (vR 0), some (vI ((p : Nat) : Int)), none] RX12 (by decide) rfl XM rfl (Nat.le_of_ble_eq_true rfl) (fun K hO => ?_)
  have hs0 := seems_rng h.1 hp (k := 0) (by omega)
  have hs1 := seems_rng h.1 hp (k := 1) (by omega)
  have hvn := h.1.tra hp (k := 2) (by omega)
  have hru := h.1.ru
  have hnw := h.1.now.rest
  have hm0 := mul81 hru.1.1 hru.1.2 hs0.1 hs0.2
  have hm1 := mul81 hru.2.1.1 hru.2.1.2 hs1.1 hs1.2
  have hm2 := mul81 hru.2.2.1.1 hru.2.2.1.2 hvn.1 hvn.2
  have hmt := h.1.now.met hp
  have hch := h.1.now.cha (j := 18 + p) (by omega) (by omega)
  have hho : -1 ≤ μ.1 0 29 ∧ μ.1 0 29 ≤ 3 := by have := h.2; unfold HoldOK at this; omega
  refine aw_aload_n hO dX12_appealOf_0 rfl rfl ?_
  refine gM_rule hO dX12_appealOf_1 rfl ?_
  refine aw_iconst hO dX12_appealOf_4 rfl ?_
  refine aw_ialdn (N := 4) (i := 0) hO dX12_appealOf_5 rfl (by decide) rfl (by decide) rfl (by decide) ?_
  refine aw_aload_n hO dX12_appealOf_6 rfl rfl ?_
  refine aw_iload_n hO dX12_appealOf_7 rfl rfl ?_
  refine aw_iconst hO dX12_appealOf_8 rfl ?_
  refine aw_callVI (as := [vI ((p : Nat) : Int), vI 0]) (st := [vI (μ.1 14 0)]) hO dX12_appealOf_9 rfl (lw_t7 33 rfl rfl) kX12_seems (T := TX12) rfl (by decide) rfl (ctM_seems μ h.1 (p := p) (k := 0) (by omega) (by omega)) (by decide) rfl rfl rfl (Nat.le_of_ble_eq_true rfl) ?_
  refine aw_imul hO dX12_appealOf_12 rfl ?_
  refine aw_aload_n hO dX12_appealOf_13 rfl rfl ?_
  refine gM_rule hO dX12_appealOf_14 rfl ?_
  refine aw_iconst hO dX12_appealOf_17 rfl ?_
  refine aw_ialdn (N := 4) (i := 1) hO dX12_appealOf_18 rfl (by decide) rfl (by decide) rfl (by decide) ?_
  refine aw_aload_n hO dX12_appealOf_19 rfl rfl ?_
  refine aw_iload_n hO dX12_appealOf_20 rfl rfl ?_
  refine aw_iconst hO dX12_appealOf_21 rfl ?_
  refine aw_callVI (as := [vI ((p : Nat) : Int), vI 1]) (st := [vI (μ.1 14 1), vI ((μ.1 14 0) * (seemsM μ p 0))]) hO dX12_appealOf_22 rfl (lw_t7 33 rfl rfl) kX12_seems (T := TX12) rfl (by decide) rfl (ctM_seems μ h.1 (p := p) (k := 1) (by omega) (by omega)) (by decide) rfl rfl rfl (Nat.le_of_ble_eq_true rfl) ?_
  refine aw_imul hO dX12_appealOf_25 rfl ?_
  refine aw_iadd hO dX12_appealOf_26 rfl ?_
  refine aw_aload_n hO dX12_appealOf_27 rfl rfl ?_
  refine gM_rule hO dX12_appealOf_28 rfl ?_
  refine aw_iconst hO dX12_appealOf_31 rfl ?_
  refine aw_ialdn (N := 4) (i := 2) hO dX12_appealOf_32 rfl (by decide) rfl (by decide) rfl (by decide) ?_
  refine aw_aload_n hO dX12_appealOf_33 rfl rfl ?_
  refine aw_iload_n hO dX12_appealOf_34 rfl rfl ?_
  refine aw_iconst hO dX12_appealOf_35 rfl ?_
  refine aw_callVI (as := [vI ((p : Nat) : Int), vI 2]) (st := [vI (μ.1 14 2), vI (((μ.1 14 0) * (seemsM μ p 0)) + ((μ.1 14 1) * (seemsM μ p 1)))]) hO dX12_appealOf_36 rfl (lw_t7 25 rfl rfl) kX12_of (T := TX12) rfl (by decide) rfl (ctM_of μ (p := p) (k := 2) (by omega) (by omega)) (by decide) rfl rfl rfl (Nat.le_of_ble_eq_true rfl) ?_
  refine aw_imul hO dX12_appealOf_39 rfl ?_
  refine aw_isub hO dX12_appealOf_40 rfl ?_
  refine aw_istore_n (ls' := [some (vR 0), some (vI ((p : Nat) : Int)), some (vI ((((μ.1 14 0) * (seemsM μ p 0)) + ((μ.1 14 1) * (seemsM μ p 1))) - ((μ.1 14 2) * (μ.1 15 (4 * p + 2)))))]) hO dX12_appealOf_41 rfl (Nat.le_of_ble_eq_true rfl) rfl rfl ?_
  refine aw_aload_n hO dX12_appealOf_42 rfl rfl ?_
  refine gM_holding hO dX12_appealOf_43 rfl ?_
  refine aw_iconst hO dX12_appealOf_46 rfl ?_
  refine aw_icmp_eq (tgt := 140) hO dX12_appealOf_47 rfl rfl ⟨by omega, by omega⟩ (inRlit _) (fun c47 => ?_) (fun c47 => ?_)
  · refine aw_iload_n hO dX12_appealOf_140 rfl rfl ?_
    refine aw_callSI (as := [vI ((((μ.1 14 0) * (seemsM μ p 0)) + ((μ.1 14 1) * (seemsM μ p 1))) - ((μ.1 14 2) * (μ.1 15 (4 * p + 2))))]) (st := []) hO dX12_appealOf_141 rfl (lw_t7 138 rfl rfl) kX12_held (ctM_held μ (v := ((((μ.1 14 0) * (seemsM μ p 0)) + ((μ.1 14 1) * (seemsM μ p 1))) - ((μ.1 14 2) * (μ.1 15 (4 * p + 2))))) ⟨by omega, by omega⟩) (by decide) rfl rfl rfl (Nat.le_of_ble_eq_true rfl) ?_
    refine aw_iret hO dX12_appealOf_144 ?_
    exact ⟨_, rfl, by unfold appealM rawM; rw [if_pos c47], Sc.rf⟩
  · refine aw_aload_n hO dX12_appealOf_50 rfl rfl ?_
    refine gM_letters hO dX12_appealOf_51 rfl ?_
    refine aw_iconst hO dX12_appealOf_54 rfl ?_
    refine aw_aload_n hO dX12_appealOf_55 rfl rfl ?_
    refine aw_iload_n hO dX12_appealOf_56 rfl rfl ?_
    refine aw_iconst hO dX12_appealOf_57 rfl ?_
    refine aw_callVI (as := [vI ((p : Nat) : Int), vI 0]) (st := [vI 0, vR 9]) hO dX12_appealOf_58 rfl (lw_t7 33 rfl rfl) kX12_seems (T := TX12) rfl (by decide) rfl (ctM_seems μ h.1 (p := p) (k := 0) (by omega) (by omega)) (by decide) rfl rfl rfl (Nat.le_of_ble_eq_true rfl) ?_
    refine aw_iastn (N := 6) (i := 0) hO dX12_appealOf_61 rfl (by decide) rfl (by decide) rfl (by decide) ?_
    refine aw_mm (fun μ1 e_μ1 => ?_)
    have hS1 : Sc s9 μ μ1 := by rw [e_μ1]; exact Sc.mst Sc.rf rfl
    have hG_μ1 := h.Sc hS1
    refine aw_aload_n hO dX12_appealOf_62 rfl rfl ?_
    refine gM_letters hO dX12_appealOf_63 rfl ?_
    refine aw_iconst hO dX12_appealOf_66 rfl ?_
    refine aw_aload_n hO dX12_appealOf_67 rfl rfl ?_
    refine aw_iload_n hO dX12_appealOf_68 rfl rfl ?_
    refine aw_iconst hO dX12_appealOf_69 rfl ?_
    refine aw_callVI (as := [vI ((p : Nat) : Int), vI 1]) (st := [vI 1, vR 9]) hO dX12_appealOf_70 rfl (lw_t7 33 rfl rfl) kX12_seems (T := TX12) rfl (by decide) rfl (ctM_seems μ1 hG_μ1.1 (p := p) (k := 1) (by omega) (by omega)) (by decide) rfl rfl rfl (Nat.le_of_ble_eq_true rfl) ?_
    refine aw_cg (seemsM_Sc hS1 p 1) ?_
    refine aw_iastn (N := 6) (i := 1) hO dX12_appealOf_73 rfl (by decide) rfl (by decide) rfl (by decide) ?_
    refine aw_mm (fun μ2 e_μ2 => ?_)
    have hS2 : Sc s9 μ μ2 := by rw [e_μ2]; exact Sc.mst hS1 rfl
    have hG_μ2 := h.Sc hS2
    refine aw_aload_n hO dX12_appealOf_74 rfl rfl ?_
    refine gM_letters hO dX12_appealOf_75 rfl ?_
    refine aw_iconst hO dX12_appealOf_78 rfl ?_
    refine aw_aload_n hO dX12_appealOf_79 rfl rfl ?_
    refine aw_iload_n hO dX12_appealOf_80 rfl rfl ?_
    refine aw_iconst hO dX12_appealOf_81 rfl ?_
    refine aw_callVI (as := [vI ((p : Nat) : Int), vI 2]) (st := [vI 2, vR 9]) hO dX12_appealOf_82 rfl (lw_t7 25 rfl rfl) kX12_of (T := TX12) rfl (by decide) rfl (ctM_of μ2 (p := p) (k := 2) (by omega) (by omega)) (by decide) rfl rfl rfl (Nat.le_of_ble_eq_true rfl) ?_
    refine aw_cg (hS2.1 15 (4 * p + 2) rfl) ?_
    refine aw_iastn (N := 6) (i := 2) hO dX12_appealOf_85 rfl (by decide) rfl (by decide) rfl (by decide) ?_
    refine aw_mm (fun μ3 e_μ3 => ?_)
    have hS3 : Sc s9 μ μ3 := by rw [e_μ3]; exact Sc.mst hS2 rfl
    have hG_μ3 := h.Sc hS3
    refine aw_aload_n hO dX12_appealOf_86 rfl rfl ?_
    refine gM_letters hO dX12_appealOf_87 rfl ?_
    refine aw_iconst hO dX12_appealOf_90 rfl ?_
    refine aw_aload_n hO dX12_appealOf_91 rfl rfl ?_
    refine gM_now hO dX12_appealOf_92 rfl ?_
    refine aw_iconst hO dX12_appealOf_95 rfl ?_
    refine aw_iload_n hO dX12_appealOf_96 rfl rfl ?_
    refine aw_iadd hO dX12_appealOf_97 rfl ?_
    refine aw_ialdn (N := 218) (i := p) hO dX12_appealOf_98 rfl (by decide) rfl (by decide) (by omega) (by omega) ?_
    refine aw_cg (hS3.1 17 p rfl) ?_
    refine aw_iastn (N := 6) (i := 3) hO dX12_appealOf_99 rfl (by decide) rfl (by decide) rfl (by decide) ?_
    refine aw_mm (fun μ4 e_μ4 => ?_)
    have hS4 : Sc s9 μ μ4 := by rw [e_μ4]; exact Sc.mst hS3 rfl
    have hG_μ4 := h.Sc hS4
    refine aw_aload_n hO dX12_appealOf_100 rfl rfl ?_
    refine gM_letters hO dX12_appealOf_101 rfl ?_
    refine aw_iconst hO dX12_appealOf_104 rfl ?_
    refine aw_aload_n hO dX12_appealOf_105 rfl rfl ?_
    refine gM_now hO dX12_appealOf_106 rfl ?_
    refine aw_bipush hO dX12_appealOf_109 rfl (by decide) (by decide) ?_
    refine aw_iload_n hO dX12_appealOf_111 rfl rfl ?_
    refine aw_iadd hO dX12_appealOf_112 rfl ?_
    refine aw_ialdn (N := 218) (i := (18 + p)) hO dX12_appealOf_113 rfl (by decide) rfl (by decide) (by omega) (by omega) ?_
    refine aw_cg (hS4.1 17 (18 + p) rfl) ?_
    refine aw_iastn (N := 6) (i := 4) hO dX12_appealOf_114 rfl (by decide) rfl (by decide) rfl (by decide) ?_
    refine aw_mm (fun μ5 e_μ5 => ?_)
    have hS5 : Sc s9 μ μ5 := by rw [e_μ5]; exact Sc.mst hS4 rfl
    have hG_μ5 := h.Sc hS5
    refine aw_aload_n hO dX12_appealOf_115 rfl rfl ?_
    refine gM_letters hO dX12_appealOf_116 rfl ?_
    refine aw_iconst hO dX12_appealOf_119 rfl ?_
    refine aw_aload_n hO dX12_appealOf_120 rfl rfl ?_
    refine gM_now hO dX12_appealOf_121 rfl ?_
    refine aw_bipush hO dX12_appealOf_124 rfl (by decide) (by decide) ?_
    refine aw_ialdn (N := 218) (i := 36) hO dX12_appealOf_126 rfl (by decide) rfl (by decide) rfl (by decide) ?_
    refine aw_cg (hS5.1 17 36 rfl) ?_
    refine aw_bipush hO dX12_appealOf_127 rfl (by decide) (by decide) ?_
    refine aw_irem hO dX12_appealOf_129 rfl (by omega) (by omega) (by omega) (by omega) ?_
    refine aw_iastn (N := 6) (i := 5) hO dX12_appealOf_130 rfl (by decide) rfl (by decide) rfl (by decide) ?_
    refine aw_mm (fun μ6 e_μ6 => ?_)
    have hS6 : Sc s9 μ μ6 := by rw [e_μ6]; exact Sc.mst hS5 rfl
    have hG_μ6 := h.Sc hS6
    refine aw_aload_n hO dX12_appealOf_131 rfl rfl ?_
    refine aw_aload_n hO dX12_appealOf_132 rfl rfl ?_
    refine gM_holding hO dX12_appealOf_133 rfl ?_
    refine aw_cg (hS6.1 0 29 rfl) ?_
    obtain ⟨hh, hV⟩ : (0 ≤ μ.1 0 29 ∧ μ.1 0 29 ≤ 3) ∧ LawV μ (μ.1 0 29).toNat := by have := h.2; unfold HoldOK at this; exact this.resolve_left c47
    have hV6 : LawV μ6 (μ.1 0 29).toNat := by unfold LawV; rw [hS6.fn (k := 2) rfl, hS6.fn (k := 3) rfl, hS6.fn (k := 5) rfl, hS6.fn (k := 6) rfl, hS6.fn (k := 7) rfl, hS6.fn (k := 8) rfl]; exact hV
    have hlt : ∀ i, i < 6 → μ6.1 9 i = ltM μ p i := by
      intro i hi
      rcases (show i = 0 ∨ i = 1 ∨ i = 2 ∨ i = 3 ∨ i = 4 ∨ i = 5 by omega) with rfl | rfl | rfl | rfl | rfl | rfl <;> simp [e_μ6, e_μ5, e_μ4, e_μ3, e_μ2, e_μ1, mst, ltM]
    refine aw_stq (st' := [vI (((μ.1 0 29).toNat : Nat) : Int), vR 0]) (by rw [Int.toNat_of_nonneg hh.1]) ?_
    refine aw_callVE (as := [vI (((μ.1 0 29).toNat : Nat) : Int)]) (st := []) hO dX12_appealOf_136 rfl (lw_t7 116 rfl rfl) kX12_worthOf (T := TX12) rfl (by decide) rfl (ctM_worthOf μ6 (n := (μ.1 0 29).toNat) (by omega) hV6 (fun i hi => by rw [hlt i hi]; rcases (show i = 0 ∨ i = 1 ∨ i = 2 ∨ i = 3 ∨ i = 4 ∨ i = 5 by omega) with rfl | rfl | rfl | rfl | rfl | rfl <;> simp only [ltM] <;> omega)) (by decide) rfl rfl rfl (Nat.le_of_ble_eq_true rfl) (fun v7 μ8 hq9 => ?_)
    obtain ⟨⟨e_v7, l_v7, r_v7⟩, s_μ8⟩ := hq9
    have hS9_μ8 : Sc s9 μ μ8 := hS6.tr (s_μ8.mono (fun k hk => by unfold s9 at hk; unfold s10; simp at hk; simp [hk]))
    rw [worthM_lt hV6 (lt' := ltM μ p) hlt _ _ (by omega) (by rw [Int.toNat_of_nonneg hV6.1.1]; omega), worthM_Sc hS6, hS6.fn (k := 5) rfl] at e_v7
    refine aw_istore_n (ls' := [some (vR 0), some (vI ((p : Nat) : Int)), some (vI v7)]) hO dX12_appealOf_139 rfl (Nat.le_of_ble_eq_true rfl) rfl rfl ?_
    refine aw_iload_n hO dX12_appealOf_140 rfl rfl ?_
    refine aw_callSI (as := [vI v7]) (st := []) hO dX12_appealOf_141 rfl (lw_t7 138 rfl rfl) kX12_held (ctM_held μ8 (v := v7) ⟨by omega, by omega⟩) (by decide) rfl rfl rfl (Nat.le_of_ble_eq_true rfl) ?_
    refine aw_iret hO dX12_appealOf_144 ?_
    exact ⟨_, rfl, by unfold appealM rawM; rw [if_neg c47, ← e_v7], hS9_μ8⟩
