
/-! ## work -/
/-- whether p can meet trouble t -/
def canW (μ : Mm) (p t : Nat) : Bool := hasB (metM μ (p : Int) (μ.1 0 26).toNat) t
def wkP (μ : Mm) (t : Nat) (gone : Int) (p : Nat) : Bool := !hasB gone p && (!hasB (μ.1 17 31) p && canW μ p t)
/-- the best row and how much, over the persons below n who can, then nobody: R goes on with the next trouble -/
def wkL (ok : Nat → Bool) (R : Nat → Int × Int → Int × Int) : Nat → Int × Int → Int × Int
  | 0, s => s
  | p + 1, s => if ok p = true then R p (wkL ok R p s) else wkL ok R p s
def wkM (μ : Mm) : Nat → Nat → Int → Int → Int → Int × Int → Int × Int
  | 0, _, _, row, sum, s => if s.1 = -1 ∨ s.2 < sum then (row, sum) else s
  | c + 1, t, gone, row, sum, s => wkM μ c (t + 1) gone (10 * row + 9) sum (wkL (wkP μ t gone) (fun p => wkM μ c (t + 1) (bOr gone (bShl 1 (p : Int))) (10 * row + (p : Int)) (sum + μ.1 16 (3 * t + 2))) (μ.1 0 25).toNat s)
/-- the memory with that best row -/
def mW (μ m : Mm) (s : Int × Int) : Prop := m.1 0 42 = s.1 ∧ m.1 0 43 = s.2 ∧ (∀ k i, ¬ (k = 0 ∧ (i = 42 ∨ i = 43)) → m.1 k i = μ.1 k i) ∧ m.2 = μ.2
theorem mW.fn {μ m : Mm} {s : Int × Int} (h : mW μ m s) {k : Nat} (hk : k ≠ 0) : m.1 k = μ.1 k := funext fun i => h.2.2.1 k i (by omega)
theorem mW.f0 {μ m : Mm} {s : Int × Int} (h : mW μ m s) {i : Nat} (hi : i < 42) : m.1 0 i = μ.1 0 i := h.2.2.1 0 i (by omega)
theorem mW.MB {μ m : Mm} {s : Int × Int} (h : mW μ m s) (hB : MB μ) : MB m := MB_eq hB (h.f0 (by omega)) (h.f0 (by omega)) (h.fn (by omega)) (h.fn (by omega)) (h.fn (by omega)) (h.fn (by omega))
def wR (s : Int × Int) : Prop := (-1 ≤ s.1 ∧ s.1 ≤ 99999) ∧ (s.1 ≠ -1 → -2000000000 ≤ s.2 ∧ s.2 ≤ 2000000000)
theorem dX12_tryWork_0 : decode cX12_tryWork 0 = .ok (.iload_n 1, 1) := by decide +kernel
theorem dX12_tryWork_1 : decode cX12_tryWork 1 = .ok (.aload_n 0, 1) := by decide +kernel
theorem dX12_tryWork_2 : decode cX12_tryWork 2 = .ok (.getfield 245, 3) := by decide +kernel
theorem dX12_tryWork_5 : decode cX12_tryWork 5 = .ok (.if_icmp .ne 32, 3) := by decide +kernel
theorem dX12_tryWork_8 : decode cX12_tryWork 8 = .ok (.aload_n 0, 1) := by decide +kernel
theorem dX12_tryWork_9 : decode cX12_tryWork 9 = .ok (.getfield 393, 3) := by decide +kernel
theorem dX12_tryWork_12 : decode cX12_tryWork 12 = .ok (.iconst (-1), 1) := by decide +kernel
theorem dX12_tryWork_13 : decode cX12_tryWork 13 = .ok (.if_icmp .eq 12, 3) := by decide +kernel
theorem dX12_tryWork_16 : decode cX12_tryWork 16 = .ok (.iload 4, 2) := by decide +kernel
theorem dX12_tryWork_18 : decode cX12_tryWork 18 = .ok (.aload_n 0, 1) := by decide +kernel
theorem dX12_tryWork_19 : decode cX12_tryWork 19 = .ok (.getfield 396, 3) := by decide +kernel
theorem dX12_tryWork_22 : decode cX12_tryWork 22 = .ok (.if_icmp .le 14, 3) := by decide +kernel
theorem dX12_tryWork_25 : decode cX12_tryWork 25 = .ok (.aload_n 0, 1) := by decide +kernel
theorem dX12_tryWork_26 : decode cX12_tryWork 26 = .ok (.iload_n 3, 1) := by decide +kernel
theorem dX12_tryWork_27 : decode cX12_tryWork 27 = .ok (.putfield 393, 3) := by decide +kernel
theorem dX12_tryWork_30 : decode cX12_tryWork 30 = .ok (.aload_n 0, 1) := by decide +kernel
theorem dX12_tryWork_31 : decode cX12_tryWork 31 = .ok (.iload 4, 2) := by decide +kernel
theorem dX12_tryWork_33 : decode cX12_tryWork 33 = .ok (.putfield 396, 3) := by decide +kernel
theorem dX12_tryWork_36 : decode cX12_tryWork 36 = .ok (.return_, 1) := by decide +kernel
theorem dX12_tryWork_37 : decode cX12_tryWork 37 = .ok (.iconst 0, 1) := by decide +kernel
theorem dX12_tryWork_38 : decode cX12_tryWork 38 = .ok (.istore 5, 2) := by decide +kernel
theorem dX12_tryWork_40 : decode cX12_tryWork 40 = .ok (.iload 5, 2) := by decide +kernel
theorem dX12_tryWork_42 : decode cX12_tryWork 42 = .ok (.aload_n 0, 1) := by decide +kernel
theorem dX12_tryWork_43 : decode cX12_tryWork 43 = .ok (.getfield 242, 3) := by decide +kernel
theorem dX12_tryWork_46 : decode cX12_tryWork 46 = .ok (.if_icmp .ge 73, 3) := by decide +kernel
theorem dX12_tryWork_49 : decode cX12_tryWork 49 = .ok (.iload_n 2, 1) := by decide +kernel
theorem dX12_tryWork_50 : decode cX12_tryWork 50 = .ok (.iload 5, 2) := by decide +kernel
theorem dX12_tryWork_52 : decode cX12_tryWork 52 = .ok (.invokestatic 216, 3) := by decide +kernel
theorem dX12_tryWork_55 : decode cX12_tryWork 55 = .ok (.ifCond .ne 58, 3) := by decide +kernel
theorem dX12_tryWork_58 : decode cX12_tryWork 58 = .ok (.aload_n 0, 1) := by decide +kernel
theorem dX12_tryWork_59 : decode cX12_tryWork 59 = .ok (.iload 5, 2) := by decide +kernel
theorem dX12_tryWork_61 : decode cX12_tryWork 61 = .ok (.invokevirtual 280, 3) := by decide +kernel
theorem dX12_tryWork_64 : decode cX12_tryWork 64 = .ok (.ifCond .ne 49, 3) := by decide +kernel
theorem dX12_tryWork_67 : decode cX12_tryWork 67 = .ok (.aload_n 0, 1) := by decide +kernel
theorem dX12_tryWork_68 : decode cX12_tryWork 68 = .ok (.iload 5, 2) := by decide +kernel
theorem dX12_tryWork_70 : decode cX12_tryWork 70 = .ok (.invokevirtual 304, 3) := by decide +kernel
theorem dX12_tryWork_73 : decode cX12_tryWork 73 = .ok (.iload_n 1, 1) := by decide +kernel
theorem dX12_tryWork_74 : decode cX12_tryWork 74 = .ok (.invokestatic 216, 3) := by decide +kernel
theorem dX12_tryWork_77 : decode cX12_tryWork 77 = .ok (.ifCond .eq 36, 3) := by decide +kernel
theorem dX12_tryWork_80 : decode cX12_tryWork 80 = .ok (.aload_n 0, 1) := by decide +kernel
theorem dX12_tryWork_81 : decode cX12_tryWork 81 = .ok (.iload_n 1, 1) := by decide +kernel
theorem dX12_tryWork_82 : decode cX12_tryWork 82 = .ok (.iconst 1, 1) := by decide +kernel
theorem dX12_tryWork_83 : decode cX12_tryWork 83 = .ok (.iadd, 1) := by decide +kernel
theorem dX12_tryWork_84 : decode cX12_tryWork 84 = .ok (.iload_n 2, 1) := by decide +kernel
theorem dX12_tryWork_85 : decode cX12_tryWork 85 = .ok (.iconst 1, 1) := by decide +kernel
theorem dX12_tryWork_86 : decode cX12_tryWork 86 = .ok (.iload 5, 2) := by decide +kernel
theorem dX12_tryWork_88 : decode cX12_tryWork 88 = .ok (.ishl, 1) := by decide +kernel
theorem dX12_tryWork_89 : decode cX12_tryWork 89 = .ok (.ior, 1) := by decide +kernel
theorem dX12_tryWork_90 : decode cX12_tryWork 90 = .ok (.bipush 10, 2) := by decide +kernel
theorem dX12_tryWork_92 : decode cX12_tryWork 92 = .ok (.iload_n 3, 1) := by decide +kernel
theorem dX12_tryWork_93 : decode cX12_tryWork 93 = .ok (.imul, 1) := by decide +kernel
theorem dX12_tryWork_94 : decode cX12_tryWork 94 = .ok (.iload 5, 2) := by decide +kernel
theorem dX12_tryWork_96 : decode cX12_tryWork 96 = .ok (.iadd, 1) := by decide +kernel
theorem dX12_tryWork_97 : decode cX12_tryWork 97 = .ok (.iload 4, 2) := by decide +kernel
theorem dX12_tryWork_99 : decode cX12_tryWork 99 = .ok (.aload_n 0, 1) := by decide +kernel
theorem dX12_tryWork_100 : decode cX12_tryWork 100 = .ok (.getfield 55, 3) := by decide +kernel
theorem dX12_tryWork_103 : decode cX12_tryWork 103 = .ok (.iconst 3, 1) := by decide +kernel
theorem dX12_tryWork_104 : decode cX12_tryWork 104 = .ok (.iload_n 1, 1) := by decide +kernel
theorem dX12_tryWork_105 : decode cX12_tryWork 105 = .ok (.imul, 1) := by decide +kernel
theorem dX12_tryWork_106 : decode cX12_tryWork 106 = .ok (.iconst 2, 1) := by decide +kernel
theorem dX12_tryWork_107 : decode cX12_tryWork 107 = .ok (.iadd, 1) := by decide +kernel
theorem dX12_tryWork_108 : decode cX12_tryWork 108 = .ok (.iaload, 1) := by decide +kernel
theorem dX12_tryWork_109 : decode cX12_tryWork 109 = .ok (.iadd, 1) := by decide +kernel
theorem dX12_tryWork_110 : decode cX12_tryWork 110 = .ok (.invokevirtual 399, 3) := by decide +kernel
theorem dX12_tryWork_113 : decode cX12_tryWork 113 = .ok (.iinc 5 1, 3) := by decide +kernel
theorem dX12_tryWork_116 : decode cX12_tryWork 116 = .ok (.goto (-76), 3) := by decide +kernel
theorem dX12_tryWork_119 : decode cX12_tryWork 119 = .ok (.aload_n 0, 1) := by decide +kernel
theorem dX12_tryWork_120 : decode cX12_tryWork 120 = .ok (.iload_n 1, 1) := by decide +kernel
theorem dX12_tryWork_121 : decode cX12_tryWork 121 = .ok (.iconst 1, 1) := by decide +kernel
theorem dX12_tryWork_122 : decode cX12_tryWork 122 = .ok (.iadd, 1) := by decide +kernel
theorem dX12_tryWork_123 : decode cX12_tryWork 123 = .ok (.iload_n 2, 1) := by decide +kernel
theorem dX12_tryWork_124 : decode cX12_tryWork 124 = .ok (.bipush 10, 2) := by decide +kernel
theorem dX12_tryWork_126 : decode cX12_tryWork 126 = .ok (.iload_n 3, 1) := by decide +kernel
theorem dX12_tryWork_127 : decode cX12_tryWork 127 = .ok (.imul, 1) := by decide +kernel
theorem dX12_tryWork_128 : decode cX12_tryWork 128 = .ok (.bipush 9, 2) := by decide +kernel
theorem dX12_tryWork_130 : decode cX12_tryWork 130 = .ok (.iadd, 1) := by decide +kernel
theorem dX12_tryWork_131 : decode cX12_tryWork 131 = .ok (.iload 4, 2) := by decide +kernel
theorem dX12_tryWork_133 : decode cX12_tryWork 133 = .ok (.invokevirtual 399, 3) := by decide +kernel
theorem dX12_tryWork_136 : decode cX12_tryWork 136 = .ok (.return_, 1) := by decide +kernel
set_option maxHeartbeats 4000000 in
set_option maxRecDepth 100000 in
theorem ctM_tryWork (μ : Mm) (h : MB μ) : ∀ (c t : Nat) (gone row sum : Int) (s : Int × Int) (m : Mm), (t : Int) + c = μ.1 0 26 → 0 ≤ row → row < 10 ^ t → 0 ≤ sum → sum ≤ 9 * (t : Int) → wR s → mW μ m s → CtV PM (3 + c) yX12_tryWork cX12_tryWork 6 none [vR 0, vI ((t : Nat) : Int), vI gone, vI row, vI sum] m (fun m2 => mW μ m2 (wkM μ c t gone row sum s) ∧ wR (wkM μ c t gone row sum s)) := by
  intro c
  have hnp := h.np
  have hnt := h.nt
  induction c with
  | zero =>
    intro t gone row sum s m ht hr1 hr2 hs1 hs2 hR hW
    have hrb : row ≤ 99999 := by have := hr2; rcases (show t = 0 ∨ t = 1 ∨ t = 2 ∨ t = 3 ∨ t = 4 ∨ t = 5 by omega) with rfl | rfl | rfl | rfl | rfl | rfl <;> omega
    obtain ⟨hR1, hR2⟩ := id hR
    refine ct_intro [some (vR 0), some (vI ((t : Nat) : Int)), some (vI gone), some (vI row), some (vI sum), none] RX12 (by decide) rfl XM rfl (Nat.le_of_ble_eq_true rfl) (fun K hO => ?_)
    refine aw_iload_n hO dX12_tryWork_0 rfl rfl ?_
    refine aw_aload_n hO dX12_tryWork_1 rfl rfl ?_
    refine gM_troubles hO dX12_tryWork_2 rfl ?_
    refine aw_cg (hW.2.2.1 0 26 (by omega)) ?_
    refine aw_icmp_ne (tgt := 37) hO dX12_tryWork_5 rfl rfl (inRn (by omega)) ⟨by omega, by omega⟩ (fun c5 => ?_) (fun c5 => ?_)
    · exact absurd c5 (by omega)
    · refine aw_aload_n hO dX12_tryWork_8 rfl rfl ?_
      refine gM_bestRow hO dX12_tryWork_9 rfl ?_
      refine aw_cg hW.1 ?_
      refine aw_iconst hO dX12_tryWork_12 rfl ?_
      refine aw_icmp_eq (tgt := 25) hO dX12_tryWork_13 rfl rfl ⟨by omega, by omega⟩ (inRlit _) (fun c13 => ?_) (fun c13 => ?_)
      · refine aw_aload_n hO dX12_tryWork_25 rfl rfl ?_
        refine aw_iload_n hO dX12_tryWork_26 rfl rfl ?_
        refine pM_bestRow hO dX12_tryWork_27 rfl ?_
        refine aw_mm (fun μ1 e_μ1 => ?_)
        refine aw_aload_n hO dX12_tryWork_30 rfl rfl ?_
        refine aw_iload hO dX12_tryWork_31 rfl rfl ?_
        refine pM_bestMany hO dX12_tryWork_33 rfl ?_
        refine aw_mm (fun μ2 e_μ2 => ?_)
        refine aw_vret hO dX12_tryWork_36 ?_
        exact ⟨rfl, by rw [wkM, if_pos (Or.inl c13)]; exact ⟨⟨by rw [e_μ2, mst_ni (by decide), e_μ1, mst_eq], by rw [e_μ2, mst_eq], fun k i hk => by rw [e_μ2, e_μ1]; unfold mst; simp only; rw [if_neg (by omega), if_neg (by omega)]; exact hW.2.2.1 k i hk, by rw [e_μ2, e_μ1]; exact hW.2.2.2⟩, by unfold wR; dsimp only; omega⟩⟩
      · have hR3 := hR2 c13
        refine aw_iload hO dX12_tryWork_16 rfl rfl ?_
        refine aw_aload_n hO dX12_tryWork_18 rfl rfl ?_
        refine gM_bestMany hO dX12_tryWork_19 rfl ?_
        refine aw_cg hW.2.1 ?_
        refine aw_icmp_le (tgt := 36) hO dX12_tryWork_22 rfl rfl ⟨by omega, by omega⟩ ⟨by omega, by omega⟩ (fun c22 => ?_) (fun c22 => ?_)
        · refine aw_vret hO dX12_tryWork_36 ?_
          exact ⟨rfl, by rw [wkM, if_neg (fun q => q.elim c13 (by omega))]; exact ⟨hW, hR⟩⟩
        · refine aw_aload_n hO dX12_tryWork_25 rfl rfl ?_
          refine aw_iload_n hO dX12_tryWork_26 rfl rfl ?_
          refine pM_bestRow hO dX12_tryWork_27 rfl ?_
          refine aw_mm (fun μ3 e_μ3 => ?_)
          refine aw_aload_n hO dX12_tryWork_30 rfl rfl ?_
          refine aw_iload hO dX12_tryWork_31 rfl rfl ?_
          refine pM_bestMany hO dX12_tryWork_33 rfl ?_
          refine aw_mm (fun μ4 e_μ4 => ?_)
          refine aw_vret hO dX12_tryWork_36 ?_
          exact ⟨rfl, by rw [wkM, if_pos (Or.inr c22)]; exact ⟨⟨by rw [e_μ4, mst_ni (by decide), e_μ3, mst_eq], by rw [e_μ4, mst_eq], fun k i hk => by rw [e_μ4, e_μ3]; unfold mst; simp only; rw [if_neg (by omega), if_neg (by omega)]; exact hW.2.2.1 k i hk, by rw [e_μ4, e_μ3]; exact hW.2.2.2⟩, by unfold wR; dsimp only; omega⟩⟩
  | succ c ih =>
    intro t gone row sum s m ht hr1 hr2 hs1 hs2 hR hW
    have hrb : row ≤ 99999 := by have := hr2; rcases (show t = 0 ∨ t = 1 ∨ t = 2 ∨ t = 3 ∨ t = 4 ∨ t = 5 by omega) with rfl | rfl | rfl | rfl | rfl | rfl <;> omega
    obtain ⟨hR1, hR2⟩ := id hR
    refine ct_intro [some (vR 0), some (vI ((t : Nat) : Int)), some (vI gone), some (vI row), some (vI sum), none] RX12 (by decide) rfl XM rfl (Nat.le_of_ble_eq_true rfl) (fun K hO => ?_)
    have hgr := (h.tr (t := t) (by omega)).2.2
    have hpw : (10 : Int) ^ (t + 1) = 10 ^ t * 10 := Int.pow_succ 10 t
    have il : ∀ (c2 : Nat) (p : Nat) (m2 : Mm), ((p : Int) + c2 = μ.1 0 25) → (mW μ m2 (wkL (wkP μ t gone) (fun p => wkM μ c (t + 1) (bOr gone (bShl 1 (p : Int))) (10 * row + (p : Int)) (sum + μ.1 16 (3 * t + 2))) p s)) → (wR (wkL (wkP μ t gone) (fun p => wkM μ c (t + 1) (bOr gone (bShl 1 (p : Int))) (10 * row + (p : Int)) (sum + μ.1 16 (3 * t + 2))) p s)) → AW K 40 [some (vR 0), some (vI ((t : Nat) : Int)), some (vI gone), some (vI row), some (vI sum), some (vI ((p : Nat) : Int))] [] m2 := by
      intro c2
      induction c2 with
      | zero =>
        intro p m2 hp hW2 hR2b
        refine aw_iload hO dX12_tryWork_40 rfl rfl ?_
        refine aw_aload_n hO dX12_tryWork_42 rfl rfl ?_
        refine gM_persons hO dX12_tryWork_43 rfl ?_
        refine aw_cg (hW2.2.2.1 0 25 (by omega)) ?_
        refine aw_icmp_ge (tgt := 119) hO dX12_tryWork_46 rfl rfl (inRn (by omega)) ⟨by omega, by omega⟩ (fun c46 => ?_) (fun c46 => ?_)
        · refine aw_aload_n hO dX12_tryWork_119 rfl rfl ?_
          refine aw_iload_n hO dX12_tryWork_120 rfl rfl ?_
          refine aw_iconst hO dX12_tryWork_121 rfl ?_
          refine aw_iadd hO dX12_tryWork_122 rfl ?_
          refine aw_iload_n hO dX12_tryWork_123 rfl rfl ?_
          refine aw_bipush hO dX12_tryWork_124 rfl (by decide) (by decide) ?_
          refine aw_iload_n hO dX12_tryWork_126 rfl rfl ?_
          refine aw_imul hO dX12_tryWork_127 rfl ?_
          refine aw_bipush hO dX12_tryWork_128 rfl (by decide) (by decide) ?_
          refine aw_iadd hO dX12_tryWork_130 rfl ?_
          refine aw_iload hO dX12_tryWork_131 rfl rfl ?_
          refine aw_stq (st' := [vI sum, vI (10 * row + 9), vI gone, vI ((t + 1 : Nat) : Int), vR 0]) rfl ?_
          refine aw_callVV (as := [vI (((t + 1) : Nat) : Int), vI gone, vI (10 * row + 9), vI sum]) (st := []) hO dX12_tryWork_133 rfl (lw_t8 14 rfl rfl) kX12_tryWork (T := TX12) rfl (by decide) rfl (ih (t + 1) gone (10 * row + 9) sum (wkL (wkP μ t gone) (fun p => wkM μ c (t + 1) (bOr gone (bShl 1 (p : Int))) (10 * row + (p : Int)) (sum + μ.1 16 (3 * t + 2))) p s) m2 (by omega) (by omega) (by omega) (by omega) (by omega) hR2b hW2) (by omega) rfl rfl rfl (Nat.le_of_ble_eq_true rfl) (fun μ6 hq7 => ?_)
          obtain ⟨hW3, hR3⟩ := hq7
          refine aw_vret hO dX12_tryWork_136 ?_
          exact ⟨rfl, by rw [wkM, show (μ.1 0 25).toNat = p by omega]; exact ⟨hW3, hR3⟩⟩
        · exact absurd c46 (by omega)
      | succ c2 ih2 =>
        intro p m2 hp hW2 hR2b
        refine aw_iload hO dX12_tryWork_40 rfl rfl ?_
        refine aw_aload_n hO dX12_tryWork_42 rfl rfl ?_
        refine gM_persons hO dX12_tryWork_43 rfl ?_
        refine aw_cg (hW2.2.2.1 0 25 (by omega)) ?_
        refine aw_icmp_ge (tgt := 119) hO dX12_tryWork_46 rfl rfl (inRn (by omega)) ⟨by omega, by omega⟩ (fun c46 => ?_) (fun c46 => ?_)
        · exact absurd c46 (by omega)
        · refine aw_iload_n hO dX12_tryWork_49 rfl rfl ?_
          refine aw_iload hO dX12_tryWork_50 rfl rfl ?_
          refine aw_callSI (as := [vI gone, vI ((p : Nat) : Int)]) (st := []) hO dX12_tryWork_52 rfl (lw_t6 155 rfl rfl) kX12_has (ctM_has m2 gone p) (by omega) rfl rfl rfl (Nat.le_of_ble_eq_true rfl) ?_
          refine aw_ifz_ne (tgt := 113) hO dX12_tryWork_55 rfl rfl (fun c55 => ?_) (fun c55 => ?_)
          · refine aw_iinc (ls' := [some (vR 0), some (vI ((t : Nat) : Int)), some (vI gone), some (vI row), some (vI sum), some (vI (((p : Nat) : Int) + 1))]) hO dX12_tryWork_113 rfl rfl rfl rfl ?_
            refine aw_lsq (ls' := [some (vR 0), some (vI ((t : Nat) : Int)), some (vI gone), some (vI row), some (vI sum), some (vI (((p + 1) : Nat) : Int))]) rfl ?_
            refine aw_goto (tgt := 40) hO dX12_tryWork_116 rfl ?_
            refine aw_lsq (ls' := [some (vR 0), some (vI ((t : Nat) : Int)), some (vI gone), some (vI row), some (vI sum), some (vI (((p + 1) : Nat) : Int))]) rfl ?_
            exact ih2 (p + 1) m2 (by omega) (by rw [wkL, if_neg (by unfold wkP; rw [c55]; simp)]; exact hW2) (by rw [wkL, if_neg (by unfold wkP; rw [c55]; simp)]; exact hR2b)
          · refine aw_aload_n hO dX12_tryWork_58 rfl rfl ?_
            refine aw_iload hO dX12_tryWork_59 rfl rfl ?_
            refine aw_callVI (as := [vI ((p : Nat) : Int)]) (st := []) hO dX12_tryWork_61 rfl (lw_t7 29 rfl rfl) kX12_isAway (T := TX12) rfl (by decide) rfl (ctM_isAway m2 p) (by omega) rfl rfl rfl (Nat.le_of_ble_eq_true rfl) ?_
            rw [hW2.fn (k := 17) (by omega)]
            refine aw_ifz_ne (tgt := 113) hO dX12_tryWork_64 rfl rfl (fun c64 => ?_) (fun c64 => ?_)
            · refine aw_iinc (ls' := [some (vR 0), some (vI ((t : Nat) : Int)), some (vI gone), some (vI row), some (vI sum), some (vI (((p : Nat) : Int) + 1))]) hO dX12_tryWork_113 rfl rfl rfl rfl ?_
              refine aw_lsq (ls' := [some (vR 0), some (vI ((t : Nat) : Int)), some (vI gone), some (vI row), some (vI sum), some (vI (((p + 1) : Nat) : Int))]) rfl ?_
              refine aw_goto (tgt := 40) hO dX12_tryWork_116 rfl ?_
              refine aw_lsq (ls' := [some (vR 0), some (vI ((t : Nat) : Int)), some (vI gone), some (vI row), some (vI sum), some (vI (((p + 1) : Nat) : Int))]) rfl ?_
              exact ih2 (p + 1) m2 (by omega) (by rw [wkL, if_neg (by unfold wkP; rw [c64]; simp)]; exact hW2) (by rw [wkL, if_neg (by unfold wkP; rw [c64]; simp)]; exact hR2b)
            · refine aw_aload_n hO dX12_tryWork_67 rfl rfl ?_
              refine aw_iload hO dX12_tryWork_68 rfl rfl ?_
              refine aw_callVI (as := [vI ((p : Nat) : Int)]) (st := []) hO dX12_tryWork_70 rfl (lw_t7 149 rfl rfl) kX12_metBy (T := TX12) rfl (by decide) rfl (ctM_metBy m2 (hW2.MB h) (q := (p : Int)) (by omega) (by omega)) (by omega) rfl rfl rfl (Nat.le_of_ble_eq_true rfl) ?_
              refine aw_cg (show metM m2 (p : Int) (m2.1 0 26).toNat = metM μ (p : Int) (μ.1 0 26).toNat by unfold metM; rw [hW2.fn (k := 15) (by omega), hW2.fn (k := 16) (by omega), hW2.fn (k := 17) (by omega), hW2.f0 (i := 26) (by omega)]) ?_
              refine aw_iload_n hO dX12_tryWork_73 rfl rfl ?_
              refine aw_callSI (as := [vI (metM μ (p : Int) (μ.1 0 26).toNat), vI ((t : Nat) : Int)]) (st := []) hO dX12_tryWork_74 rfl (lw_t6 155 rfl rfl) kX12_has (ctM_has m2 (metM μ (p : Int) (μ.1 0 26).toNat) t) (by omega) rfl rfl rfl (Nat.le_of_ble_eq_true rfl) ?_
              refine aw_ifz_eq (tgt := 113) hO dX12_tryWork_77 rfl rfl (fun c77 => ?_) (fun c77 => ?_)
              · refine aw_iinc (ls' := [some (vR 0), some (vI ((t : Nat) : Int)), some (vI gone), some (vI row), some (vI sum), some (vI (((p : Nat) : Int) + 1))]) hO dX12_tryWork_113 rfl rfl rfl rfl ?_
                refine aw_lsq (ls' := [some (vR 0), some (vI ((t : Nat) : Int)), some (vI gone), some (vI row), some (vI sum), some (vI (((p + 1) : Nat) : Int))]) rfl ?_
                refine aw_goto (tgt := 40) hO dX12_tryWork_116 rfl ?_
                refine aw_lsq (ls' := [some (vR 0), some (vI ((t : Nat) : Int)), some (vI gone), some (vI row), some (vI sum), some (vI (((p + 1) : Nat) : Int))]) rfl ?_
                exact ih2 (p + 1) m2 (by omega) (by rw [wkL, if_neg (by unfold wkP canW; rw [Bool.eq_false_iff.mpr c77]; simp)]; exact hW2) (by rw [wkL, if_neg (by unfold wkP canW; rw [Bool.eq_false_iff.mpr c77]; simp)]; exact hR2b)
              · refine aw_aload_n hO dX12_tryWork_80 rfl rfl ?_
                refine aw_iload_n hO dX12_tryWork_81 rfl rfl ?_
                refine aw_iconst hO dX12_tryWork_82 rfl ?_
                refine aw_iadd hO dX12_tryWork_83 rfl ?_
                refine aw_iload_n hO dX12_tryWork_84 rfl rfl ?_
                refine aw_iconst hO dX12_tryWork_85 rfl ?_
                refine aw_iload hO dX12_tryWork_86 rfl rfl ?_
                refine aw_ishl hO dX12_tryWork_88 rfl ?_
                refine aw_ior hO dX12_tryWork_89 rfl ?_
                refine aw_bipush hO dX12_tryWork_90 rfl (by decide) (by decide) ?_
                refine aw_iload_n hO dX12_tryWork_92 rfl rfl ?_
                refine aw_imul hO dX12_tryWork_93 rfl ?_
                refine aw_iload hO dX12_tryWork_94 rfl rfl ?_
                refine aw_iadd hO dX12_tryWork_96 rfl ?_
                refine aw_iload hO dX12_tryWork_97 rfl rfl ?_
                refine aw_aload_n hO dX12_tryWork_99 rfl rfl ?_
                refine gM_trouble hO dX12_tryWork_100 rfl ?_
                refine aw_iconst hO dX12_tryWork_103 rfl ?_
                refine aw_iload_n hO dX12_tryWork_104 rfl rfl ?_
                refine aw_imul hO dX12_tryWork_105 rfl ?_
                refine aw_iconst hO dX12_tryWork_106 rfl ?_
                refine aw_iadd hO dX12_tryWork_107 rfl ?_
                refine aw_ialdn (N := 15) (i := (3 * t + 2)) hO dX12_tryWork_108 rfl (by decide) rfl (by decide) (by omega) (by omega) ?_
                refine aw_cg (hW2.2.2.1 16 (3 * t + 2) (by omega)) ?_
                refine aw_iadd hO dX12_tryWork_109 rfl ?_
                refine aw_stq (st' := [vI (sum + μ.1 16 (3 * t + 2)), vI (10 * row + (p : Int)), vI (bOr gone (bShl 1 (p : Int))), vI ((t + 1 : Nat) : Int), vR 0]) rfl ?_
                refine aw_callVV (as := [vI (((t + 1) : Nat) : Int), vI (bOr gone (bShl 1 (p : Int))), vI (10 * row + (p : Int)), vI (sum + μ.1 16 (3 * t + 2))]) (st := []) hO dX12_tryWork_110 rfl (lw_t8 14 rfl rfl) kX12_tryWork (T := TX12) rfl (by decide) rfl (ih (t + 1) (bOr gone (bShl 1 (p : Int))) (10 * row + (p : Int)) (sum + μ.1 16 (3 * t + 2)) (wkL (wkP μ t gone) (fun p => wkM μ c (t + 1) (bOr gone (bShl 1 (p : Int))) (10 * row + (p : Int)) (sum + μ.1 16 (3 * t + 2))) p s) m2 (by omega) (by omega) (by omega) (by omega) (by omega) hR2b hW2) (by omega) rfl rfl rfl (Nat.le_of_ble_eq_true rfl) (fun μ9 hq10 => ?_)
                obtain ⟨hW3, hR3⟩ := hq10
                refine aw_iinc (ls' := [some (vR 0), some (vI ((t : Nat) : Int)), some (vI gone), some (vI row), some (vI sum), some (vI (((p : Nat) : Int) + 1))]) hO dX12_tryWork_113 rfl rfl rfl rfl ?_
                refine aw_lsq (ls' := [some (vR 0), some (vI ((t : Nat) : Int)), some (vI gone), some (vI row), some (vI sum), some (vI (((p + 1) : Nat) : Int))]) rfl ?_
                refine aw_goto (tgt := 40) hO dX12_tryWork_116 rfl ?_
                refine aw_lsq (ls' := [some (vR 0), some (vI ((t : Nat) : Int)), some (vI gone), some (vI row), some (vI sum), some (vI (((p + 1) : Nat) : Int))]) rfl ?_
                exact ih2 (p + 1) μ9 (by omega) (by rw [wkL, if_pos (by unfold wkP canW; rw [Bool.eq_false_iff.mpr c55, Bool.eq_false_iff.mpr c64, c77]; rfl)]; exact hW3) (by rw [wkL, if_pos (by unfold wkP canW; rw [Bool.eq_false_iff.mpr c55, Bool.eq_false_iff.mpr c64, c77]; rfl)]; exact hR3)
    refine aw_iload_n hO dX12_tryWork_0 rfl rfl ?_
    refine aw_aload_n hO dX12_tryWork_1 rfl rfl ?_
    refine gM_troubles hO dX12_tryWork_2 rfl ?_
    refine aw_cg (hW.2.2.1 0 26 (by omega)) ?_
    refine aw_icmp_ne (tgt := 37) hO dX12_tryWork_5 rfl rfl (inRn (by omega)) ⟨by omega, by omega⟩ (fun c5 => ?_) (fun c5 => ?_)
    · refine aw_iconst hO dX12_tryWork_37 rfl ?_
      refine aw_istore (ls' := [some (vR 0), some (vI ((t : Nat) : Int)), some (vI gone), some (vI row), some (vI sum), some (vI 0)]) hO dX12_tryWork_38 rfl (Nat.le_of_ble_eq_true rfl) rfl rfl ?_
      refine aw_lsq (ls' := [some (vR 0), some (vI ((t : Nat) : Int)), some (vI gone), some (vI row), some (vI sum), some (vI ((0 : Nat) : Int))]) rfl ?_
      exact il (μ.1 0 25).toNat 0 m (by omega) hW hR
    · exact absurd c5 (by omega)
theorem dX12_work_0 : decode cX12_work 0 = .ok (.aload_n 0, 1) := by decide +kernel
theorem dX12_work_1 : decode cX12_work 1 = .ok (.getfield 242, 3) := by decide +kernel
theorem dX12_work_4 : decode cX12_work 4 = .ok (.ifCond .eq 12, 3) := by decide +kernel
theorem dX12_work_7 : decode cX12_work 7 = .ok (.iload_n 1, 1) := by decide +kernel
theorem dX12_work_8 : decode cX12_work 8 = .ok (.iconst 0, 1) := by decide +kernel
theorem dX12_work_9 : decode cX12_work 9 = .ok (.iconst 1, 1) := by decide +kernel
theorem dX12_work_10 : decode cX12_work 10 = .ok (.invokestatic 205, 3) := by decide +kernel
theorem dX12_work_13 : decode cX12_work 13 = .ok (.ifCond .ne 5, 3) := by decide +kernel
theorem dX12_work_16 : decode cX12_work 16 = .ok (.iconst (-1), 1) := by decide +kernel
theorem dX12_work_17 : decode cX12_work 17 = .ok (.ireturn, 1) := by decide +kernel
theorem dX12_work_18 : decode cX12_work 18 = .ok (.aload_n 0, 1) := by decide +kernel
theorem dX12_work_19 : decode cX12_work 19 = .ok (.iconst (-1), 1) := by decide +kernel
theorem dX12_work_20 : decode cX12_work 20 = .ok (.putfield 393, 3) := by decide +kernel
theorem dX12_work_23 : decode cX12_work 23 = .ok (.aload_n 0, 1) := by decide +kernel
theorem dX12_work_24 : decode cX12_work 24 = .ok (.iconst 0, 1) := by decide +kernel
theorem dX12_work_25 : decode cX12_work 25 = .ok (.iconst 0, 1) := by decide +kernel
theorem dX12_work_26 : decode cX12_work 26 = .ok (.iconst 0, 1) := by decide +kernel
theorem dX12_work_27 : decode cX12_work 27 = .ok (.iconst 0, 1) := by decide +kernel
theorem dX12_work_28 : decode cX12_work 28 = .ok (.invokevirtual 399, 3) := by decide +kernel
theorem dX12_work_31 : decode cX12_work 31 = .ok (.iload_n 1, 1) := by decide +kernel
theorem dX12_work_32 : decode cX12_work 32 = .ok (.iconst 1, 1) := by decide +kernel
theorem dX12_work_33 : decode cX12_work 33 = .ok (.if_icmp .ne 10, 3) := by decide +kernel
theorem dX12_work_36 : decode cX12_work 36 = .ok (.aload_n 0, 1) := by decide +kernel
theorem dX12_work_37 : decode cX12_work 37 = .ok (.getfield 396, 3) := by decide +kernel
theorem dX12_work_40 : decode cX12_work 40 = .ok (.goto 18, 3) := by decide +kernel
theorem dX12_work_43 : decode cX12_work 43 = .ok (.aload_n 0, 1) := by decide +kernel
theorem dX12_work_44 : decode cX12_work 44 = .ok (.getfield 245, 3) := by decide +kernel
theorem dX12_work_47 : decode cX12_work 47 = .ok (.ifCond .ne 7, 3) := by decide +kernel
theorem dX12_work_50 : decode cX12_work 50 = .ok (.iconst (-1), 1) := by decide +kernel
theorem dX12_work_51 : decode cX12_work 51 = .ok (.goto 7, 3) := by decide +kernel
theorem dX12_work_54 : decode cX12_work 54 = .ok (.aload_n 0, 1) := by decide +kernel
theorem dX12_work_55 : decode cX12_work 55 = .ok (.getfield 393, 3) := by decide +kernel
theorem dX12_work_58 : decode cX12_work 58 = .ok (.ireturn, 1) := by decide +kernel
set_option maxHeartbeats 4000000 in
set_option maxRecDepth 100000 in
theorem ctM_work (μ : Mm) (h : MB μ) {u : Int} (hu : InR u) : CtE PM 10 yX12_work cX12_work 2 (some .int) [vR 0, vI u] μ (fun r m => r = (if μ.1 0 25 ≠ 0 ∧ (0 ≤ u ∧ u ≤ 1) then (if u = 1 then (wkM μ (μ.1 0 26).toNat 0 0 0 0 (-1, μ.1 0 43)).2 else if μ.1 0 26 = 0 then -1 else (wkM μ (μ.1 0 26).toNat 0 0 0 0 (-1, μ.1 0 43)).1) else -1) ∧ Scr μ m) := by
  refine ct_intro [some (vR 0), some (vI u)] RX12 (by decide) rfl XM rfl (Nat.le_of_ble_eq_true rfl) (fun K hO => ?_)
  have hnp := h.np
  have hnt := h.nt
  refine aw_aload_n hO dX12_work_0 rfl rfl ?_
  refine gM_persons hO dX12_work_1 rfl ?_
  refine aw_if_eq (tgt := 16) hO dX12_work_4 rfl rfl ⟨by omega, by omega⟩ (fun c4 => ?_) (fun c4 => ?_)
  · refine aw_iconst hO dX12_work_16 rfl ?_
    refine aw_iret hO dX12_work_17 ?_
    exact ⟨_, rfl, by rw [if_neg (fun q => q.1 c4)], Scr.rf⟩
  · refine aw_iload_n hO dX12_work_7 rfl rfl ?_
    refine aw_iconst hO dX12_work_8 rfl ?_
    refine aw_iconst hO dX12_work_9 rfl ?_
    refine aw_callSI (as := [vI u, vI 0, vI 1]) (st := []) hO dX12_work_10 rfl (lw_t6 172 rfl rfl) kX12_in (ctM_in μ ⟨by omega, by omega⟩ (inRlit _) (inRlit _)) (by omega) rfl rfl rfl (Nat.le_of_ble_eq_true rfl) ?_
    refine aw_ifz_ne (tgt := 18) hO dX12_work_13 rfl rfl (fun c13 => ?_) (fun c13 => ?_)
    · refine aw_aload_n hO dX12_work_18 rfl rfl ?_
      refine aw_iconst hO dX12_work_19 rfl ?_
      refine pM_bestRow hO dX12_work_20 rfl ?_
      refine aw_mm (fun μ1 e_μ1 => ?_)
      refine aw_aload_n hO dX12_work_23 rfl rfl ?_
      refine aw_iconst hO dX12_work_24 rfl ?_
      refine aw_iconst hO dX12_work_25 rfl ?_
      refine aw_iconst hO dX12_work_26 rfl ?_
      refine aw_iconst hO dX12_work_27 rfl ?_
      have hW0 : mW μ μ1 (-1, μ.1 0 43) := ⟨by rw [e_μ1, mst_eq], by rw [e_μ1, mst_ni (by decide)], fun k i hk => by rw [e_μ1]; unfold mst; simp only; rw [if_neg (by omega)], by rw [e_μ1]; rfl⟩
      refine aw_stq (st' := [vI 0, vI 0, vI 0, vI ((0 : Nat) : Int), vR 0]) rfl ?_
      refine aw_callVV (as := [vI ((0 : Nat) : Int), vI 0, vI 0, vI 0]) (st := []) hO dX12_work_28 rfl (lw_t8 14 rfl rfl) kX12_tryWork (T := TX12) rfl (by decide) rfl (ctM_tryWork μ h (μ.1 0 26).toNat 0 0 0 0 (-1, μ.1 0 43) μ1 (by omega) (by omega) (by decide) (by omega) (by omega) (by unfold wR; dsimp only; exact ⟨by omega, fun q => absurd rfl q⟩) hW0) (by omega) rfl rfl rfl (Nat.le_of_ble_eq_true rfl) (fun μ3 hq4 => ?_)
      obtain ⟨hW, hRR⟩ := hq4
      have hSc : Scr μ μ3 := ⟨fun k i hk => hW.2.2.1 k i (by unfold scr at hk; omega), hW.2.2.2⟩
      refine aw_iload_n hO dX12_work_31 rfl rfl ?_
      refine aw_iconst hO dX12_work_32 rfl ?_
      refine aw_icmp_ne (tgt := 43) hO dX12_work_33 rfl rfl ⟨by omega, by omega⟩ (inRlit _) (fun c33 => ?_) (fun c33 => ?_)
      · refine aw_aload_n hO dX12_work_43 rfl rfl ?_
        refine gM_troubles hO dX12_work_44 rfl ?_
        refine aw_cg (hW.2.2.1 0 26 (by omega)) ?_
        refine aw_if_ne (tgt := 54) hO dX12_work_47 rfl rfl ⟨by omega, by omega⟩ (fun c47 => ?_) (fun c47 => ?_)
        · refine aw_aload_n hO dX12_work_54 rfl rfl ?_
          refine gM_bestRow hO dX12_work_55 rfl ?_
          refine aw_cg hW.1 ?_
          refine aw_iret hO dX12_work_58 ?_
          exact ⟨_, rfl, by rw [if_pos (show μ.1 0 25 ≠ 0 ∧ (0 ≤ u ∧ u ≤ 1) from ⟨c4, c13⟩), if_neg c33, if_neg c47], hSc⟩
        · refine aw_iconst hO dX12_work_50 rfl ?_
          refine aw_goto (tgt := 58) hO dX12_work_51 rfl ?_
          refine aw_iret hO dX12_work_58 ?_
          exact ⟨_, rfl, by rw [if_pos (show μ.1 0 25 ≠ 0 ∧ (0 ≤ u ∧ u ≤ 1) from ⟨c4, c13⟩), if_neg c33, if_pos c47], hSc⟩
      · refine aw_aload_n hO dX12_work_36 rfl rfl ?_
        refine gM_bestMany hO dX12_work_37 rfl ?_
        refine aw_cg hW.2.1 ?_
        refine aw_goto (tgt := 58) hO dX12_work_40 rfl ?_
        refine aw_iret hO dX12_work_58 ?_
        exact ⟨_, rfl, by rw [if_pos (show μ.1 0 25 ≠ 0 ∧ (0 ≤ u ∧ u ≤ 1) from ⟨c4, c13⟩), if_pos c33], hSc⟩
    · refine aw_iconst hO dX12_work_16 rfl ?_
      refine aw_iret hO dX12_work_17 ?_
      exact ⟨_, rfl, by rw [if_neg (fun q => c13 q.2)], Scr.rf⟩
