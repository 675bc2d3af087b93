
/-! ## a town, as the reference reads it -/
def PQ (g : Nat → Int) (N τ : Nat) (m : Mm) (a : Nat) : Prop := PT g N τ m ∧ (m.1 0 3 = (a : Int) ∧ m.1 0 4 = -1) ∧ a ≤ N
theorem PT.wr {g : Nat → Int} {N τ : Nat} {m : Mm} (h : PT g N τ m) {k i : Nat} {v : Int} (hk : (k = 0 ∧ i ≠ 2 ∧ i ≠ 14) ∨ 2 ≤ k) : PT g N τ (mst m k i v) := by
  refine h.of ?_ ?_ (funext fun _ => mst_nk (by omega))
  · rcases hk with hk | hk
    · exact mst_ni (fun e => hk.2.1 e.symm)
    · exact mst_nk (by omega)
  · rcases hk with hk | hk
    · exact mst_ni (fun e => hk.2.2 e.symm)
    · exact mst_nk (by omega)
section
variable {g : Nat → Int} {N τ a : Nat} {m : Mm}
theorem PQ.G (h : PQ g N τ m a) : Gok g N := h.1.1
theorem PQ.at (h : PQ g N τ m a) : m.1 0 3 = (a : Int) := h.2.1.1
theorem PQ.wr (h : PQ g N τ m a) : m.1 0 4 = -1 := h.2.1.2
theorem PQ.le (h : PQ g N τ m a) : a ≤ N := h.2.2
theorem PQ.to (h : PQ g N τ m a) {b : Nat} (hb : b ≤ N) {m2 : Mm} (e : m2 = mst m 0 3 (b : Int)) : PQ g N τ m2 b := by rw [e]; exact ⟨h.1.wr (Or.inl ⟨rfl, by decide, by decide⟩), ⟨mst_eq, (mst_ni (by decide)).trans h.wr⟩, hb⟩
theorem PQ.bad (h : PQ g N τ m a) {m2 : Mm} (e : m2 = mst m 0 4 (a : Int)) : BdL g N τ m2 a := by rw [e]; exact ⟨h.1.wr (Or.inl ⟨rfl, by decide, by decide⟩), mst_eq, h.le⟩
theorem PQ.off (h : PQ g N τ m a) {m2 : Mm} {k i : Nat} {v : Int} (e : m2 = mst m k i v) (hk : 2 ≤ k) : PQ g N τ m2 a := by rw [e]; exact ⟨h.1.wr (Or.inr hk), ⟨(mst_nk (by omega)).trans h.at, (mst_nk (by omega)).trans h.wr⟩, h.le⟩
theorem BdL.off {q : Nat} (h : BdL g N τ m q) {m2 : Mm} {k i : Nat} {v : Int} (e : m2 = mst m k i v) (hk : 2 ≤ k) : BdL g N τ m2 q := by rw [e]; exact ⟨h.1.wr (Or.inr hk), (mst_nk (by omega)).trans h.2.1, h.2.2⟩
theorem BdL.st {q : Nat} (h : BdL g N τ m q) {m2 : Mm} {i : Nat} {v : Int} (e : m2 = mst m 0 i v) (hi : i ≠ 2 ∧ i ≠ 4 ∧ i ≠ 14) : BdL g N τ m2 q := by rw [e]; exact ⟨h.1.wr (Or.inl ⟨rfl, hi.1, hi.2.2⟩), (mst_ni (fun e => hi.2.1 e.symm)).trans h.2.1, h.2.2⟩
theorem PQ.st (h : PQ g N τ m a) {m2 : Mm} {i : Nat} {v : Int} (e : m2 = mst m 0 i v) (hi : i ≠ 2 ∧ i ≠ 3 ∧ i ≠ 4 ∧ i ≠ 14) : PQ g N τ m2 a := by rw [e]; exact ⟨h.1.wr (Or.inl ⟨rfl, hi.1, hi.2.2.2⟩), ⟨(mst_ni (fun e => hi.2.1 e.symm)).trans h.at, (mst_ni (fun e => hi.2.2.1 e.symm)).trans h.wr⟩, h.le⟩
end
theorem pNb_n {g : Nat → Int} {lo hi : Int} {p : Nat} (h : ¬ isD (g p)) : pNb g lo hi p = (p, none) := by unfold pNb; rw [if_neg h]
theorem pDg_1 {g : Nat → Int} {p : Nat} (h : isD (g p)) (h2 : ¬ isD (g (p + 1))) : pDg g 2 p 0 = (p + 1, some (g p - 48)) := by
  rw [pDg, if_pos h, pDg, if_neg h2]
  simp
theorem pDg_2 {g : Nat → Int} {p : Nat} (h : isD (g p)) (h2 : isD (g (p + 1))) (h3 : ¬ isD (g (p + 2))) : pDg g 2 p 0 = (p + 2, some (10 * (g p - 48) + g (p + 1) - 48)) := by
  rw [pDg, if_pos h, pDg, if_pos h2, pDg, if_neg h3]
  simp
theorem pDg_3 {g : Nat → Int} {p : Nat} (h : isD (g p)) (h2 : isD (g (p + 1))) (h3 : isD (g (p + 2))) : pDg g 2 p 0 = (p + 2, none) := by
  rw [pDg, if_pos h, pDg, if_pos h2, pDg, if_pos h3]
theorem pNb_b {g : Nat → Int} {lo hi : Int} {p q : Nat} (h : isD (g p)) (e : pDg g 2 p 0 = (q, none)) : pNb g lo hi p = (q, none) := by unfold pNb; rw [if_pos h]; simp only [e]
theorem pNb_g {g : Nat → Int} {lo hi v : Int} {p q : Nat} (h : isD (g p)) (e : pDg g 2 p 0 = (q, some v)) (h2 : lo ≤ v ∧ v ≤ hi) : pNb g lo hi p = (sk g q, some v) := by unfold pNb; rw [if_pos h]; simp only [e, if_pos h2]
theorem pNb_r {g : Nat → Int} {lo hi v : Int} {p q : Nat} (h : isD (g p)) (e : pDg g 2 p 0 = (q, some v)) (h2 : ¬ (lo ≤ v ∧ v ≤ hi)) : pNb g lo hi p = (q - 1, none) := by unfold pNb; rw [if_pos h]; simp only [e, if_neg h2]
theorem dX12_number_0 : decode cX12_number 0 = .ok (.aload_n 0, 1) := by decide +kernel
theorem dX12_number_1 : decode cX12_number 1 = .ok (.invokevirtual 119, 3) := by decide +kernel
theorem dX12_number_4 : decode cX12_number 4 = .ok (.invokestatic 122, 3) := by decide +kernel
theorem dX12_number_7 : decode cX12_number 7 = .ok (.ifCond .ne 9, 3) := by decide +kernel
theorem dX12_number_10 : decode cX12_number 10 = .ok (.aload_n 0, 1) := by decide +kernel
theorem dX12_number_11 : decode cX12_number 11 = .ok (.invokevirtual 116, 3) := by decide +kernel
theorem dX12_number_14 : decode cX12_number 14 = .ok (.iload_n 1, 1) := by decide +kernel
theorem dX12_number_15 : decode cX12_number 15 = .ok (.ireturn, 1) := by decide +kernel
theorem dX12_number_16 : decode cX12_number 16 = .ok (.aload_n 0, 1) := by decide +kernel
theorem dX12_number_17 : decode cX12_number 17 = .ok (.invokevirtual 103, 3) := by decide +kernel
theorem dX12_number_20 : decode cX12_number 20 = .ok (.bipush 48, 2) := by decide +kernel
theorem dX12_number_22 : decode cX12_number 22 = .ok (.isub, 1) := by decide +kernel
theorem dX12_number_23 : decode cX12_number 23 = .ok (.istore_n 3, 1) := by decide +kernel
theorem dX12_number_24 : decode cX12_number 24 = .ok (.aload_n 0, 1) := by decide +kernel
theorem dX12_number_25 : decode cX12_number 25 = .ok (.dup, 1) := by decide +kernel
theorem dX12_number_26 : decode cX12_number 26 = .ok (.getfield 100, 3) := by decide +kernel
theorem dX12_number_29 : decode cX12_number 29 = .ok (.iconst 1, 1) := by decide +kernel
theorem dX12_number_30 : decode cX12_number 30 = .ok (.iadd, 1) := by decide +kernel
theorem dX12_number_31 : decode cX12_number 31 = .ok (.putfield 100, 3) := by decide +kernel
theorem dX12_number_34 : decode cX12_number 34 = .ok (.aload_n 0, 1) := by decide +kernel
theorem dX12_number_35 : decode cX12_number 35 = .ok (.invokevirtual 103, 3) := by decide +kernel
theorem dX12_number_38 : decode cX12_number 38 = .ok (.invokestatic 122, 3) := by decide +kernel
theorem dX12_number_41 : decode cX12_number 41 = .ok (.ifCond .eq 26, 3) := by decide +kernel
theorem dX12_number_44 : decode cX12_number 44 = .ok (.bipush 10, 2) := by decide +kernel
theorem dX12_number_46 : decode cX12_number 46 = .ok (.iload_n 3, 1) := by decide +kernel
theorem dX12_number_47 : decode cX12_number 47 = .ok (.imul, 1) := by decide +kernel
theorem dX12_number_48 : decode cX12_number 48 = .ok (.aload_n 0, 1) := by decide +kernel
theorem dX12_number_49 : decode cX12_number 49 = .ok (.invokevirtual 103, 3) := by decide +kernel
theorem dX12_number_52 : decode cX12_number 52 = .ok (.iadd, 1) := by decide +kernel
theorem dX12_number_53 : decode cX12_number 53 = .ok (.bipush 48, 2) := by decide +kernel
theorem dX12_number_55 : decode cX12_number 55 = .ok (.isub, 1) := by decide +kernel
theorem dX12_number_56 : decode cX12_number 56 = .ok (.istore_n 3, 1) := by decide +kernel
theorem dX12_number_57 : decode cX12_number 57 = .ok (.aload_n 0, 1) := by decide +kernel
theorem dX12_number_58 : decode cX12_number 58 = .ok (.dup, 1) := by decide +kernel
theorem dX12_number_59 : decode cX12_number 59 = .ok (.getfield 100, 3) := by decide +kernel
theorem dX12_number_62 : decode cX12_number 62 = .ok (.iconst 1, 1) := by decide +kernel
theorem dX12_number_63 : decode cX12_number 63 = .ok (.iadd, 1) := by decide +kernel
theorem dX12_number_64 : decode cX12_number 64 = .ok (.putfield 100, 3) := by decide +kernel
theorem dX12_number_67 : decode cX12_number 67 = .ok (.aload_n 0, 1) := by decide +kernel
theorem dX12_number_68 : decode cX12_number 68 = .ok (.invokevirtual 103, 3) := by decide +kernel
theorem dX12_number_71 : decode cX12_number 71 = .ok (.invokestatic 122, 3) := by decide +kernel
theorem dX12_number_74 : decode cX12_number 74 = .ok (.ifCond .eq 10, 3) := by decide +kernel
theorem dX12_number_77 : decode cX12_number 77 = .ok (.aload_n 0, 1) := by decide +kernel
theorem dX12_number_78 : decode cX12_number 78 = .ok (.invokevirtual 116, 3) := by decide +kernel
theorem dX12_number_81 : decode cX12_number 81 = .ok (.goto 26, 3) := by decide +kernel
theorem dX12_number_84 : decode cX12_number 84 = .ok (.iload_n 3, 1) := by decide +kernel
theorem dX12_number_85 : decode cX12_number 85 = .ok (.iload_n 1, 1) := by decide +kernel
theorem dX12_number_86 : decode cX12_number 86 = .ok (.iload_n 2, 1) := by decide +kernel
theorem dX12_number_87 : decode cX12_number 87 = .ok (.invokestatic 205, 3) := by decide +kernel
theorem dX12_number_90 : decode cX12_number 90 = .ok (.ifCond .ne 17, 3) := by decide +kernel
theorem dX12_number_93 : decode cX12_number 93 = .ok (.aload_n 0, 1) := by decide +kernel
theorem dX12_number_94 : decode cX12_number 94 = .ok (.dup, 1) := by decide +kernel
theorem dX12_number_95 : decode cX12_number 95 = .ok (.getfield 100, 3) := by decide +kernel
theorem dX12_number_98 : decode cX12_number 98 = .ok (.iconst 1, 1) := by decide +kernel
theorem dX12_number_99 : decode cX12_number 99 = .ok (.isub, 1) := by decide +kernel
theorem dX12_number_100 : decode cX12_number 100 = .ok (.putfield 100, 3) := by decide +kernel
theorem dX12_number_103 : decode cX12_number 103 = .ok (.aload_n 0, 1) := by decide +kernel
theorem dX12_number_104 : decode cX12_number 104 = .ok (.invokevirtual 116, 3) := by decide +kernel
theorem dX12_number_107 : decode cX12_number 107 = .ok (.iload_n 3, 1) := by decide +kernel
theorem dX12_number_108 : decode cX12_number 108 = .ok (.ireturn, 1) := by decide +kernel
set_option maxHeartbeats 4000000 in
set_option maxRecDepth 100000 in
theorem ctM_number (μ : Mm) {g : Nat → Int} {N τ : Nat} {a : Nat} {lo hi : Int} (h : PQ g N τ μ a) (hlo : 0 ≤ lo) (hlo2 : lo ≤ 1) (hhi : 0 ≤ hi) (hhi2 : hi ≤ 99) : CtE PM 2 yX12_number cX12_number 4 (some .int) [vR 0, vI lo, vI hi] μ (fun r m => Fr sE μ m ∧ (0 ≤ r ∧ r ≤ 99) ∧ (∀ q, pNb g lo hi (sk g a) = (q, none) → BdL g N τ m q) ∧ ∀ q v, pNb g lo hi (sk g a) = (q, some v) → r = v ∧ ∃ b, sk g b = q ∧ PQ g N τ m b) := by
  refine ct_intro [some (vR 0), some (vI lo), some (vI hi), none] RX12 (by decide) rfl XM rfl (Nat.le_of_ble_eq_true rfl) (fun K hO => ?_)
  have hG := h.G
  have hN := hG.1
  have hpN := sk_le hG h.le
  have hP : ∃ p, sk g a = p := ⟨_, rfl⟩
  obtain ⟨p, hp⟩ := hP
  rw [hp] at hpN
  have hr1 := hG.rng (p + 1)
  have hr2 := hG.rng (p + 2)
  have hr0 := hG.rng p
  refine aw_aload_n hO dX12_number_0 rfl rfl ?_
  refine aw_callVE (as := []) (st := []) hO dX12_number_1 rfl (lw_t6 140 rfl rfl) kX12_look (T := TX12) rfl (by decide) rfl (ctM_look μ h.1 h.at h.le) (by decide) rfl rfl rfl (Nat.le_of_ble_eq_true rfl) (fun v1 μ2 hq3 => ?_)
  obtain ⟨e_v1, e_μ2⟩ := hq3
  subst e_v1
  have hp_μ2 := h.to (sk_le h.G h.le) e_μ2
  have hf_μ2 : Fr (sE) μ μ2 := by rw [e_μ2]; exact Fr.rf.st (⟨rfl, Or.inl rfl⟩) _
  have hr_μ2 := h.G.rng (sk g a)
  rw [hp] at hp_μ2 hr_μ2 ⊢
  refine aw_callSI (as := [vI (g p)]) (st := []) hO dX12_number_4 rfl (lw_t6 165 rfl rfl) kX12_isDigit (ctM_isDigit μ2 (v := (g p)) ⟨by omega, by omega⟩) (by decide) rfl rfl rfl (Nat.le_of_ble_eq_true rfl) ?_
  refine aw_ifz_ne (tgt := 16) hO dX12_number_7 rfl rfl (fun c7 => ?_) (fun c7 => ?_)
  · have hlt := hG.lt (p := p) (by omega)
    refine aw_aload_n hO dX12_number_16 rfl rfl ?_
    refine aw_callVI (as := []) (st := []) hO dX12_number_17 rfl (lw_t6 144 rfl rfl) kX12_here (T := TX12) rfl (by decide) rfl (ctM_here μ2 hp_μ2.1 hp_μ2.at hp_μ2.le) (by decide) rfl rfl rfl (Nat.le_of_ble_eq_true rfl) ?_
    refine aw_bipush hO dX12_number_20 rfl (by decide) (by decide) ?_
    refine aw_isub hO dX12_number_22 rfl ?_
    refine aw_istore_n (ls' := [some (vR 0), some (vI lo), some (vI hi), some (vI ((g p) - 48))]) hO dX12_number_23 rfl (Nat.le_of_ble_eq_true rfl) rfl rfl ?_
    refine aw_aload_n hO dX12_number_24 rfl rfl ?_
    refine aw_dup hO dX12_number_25 rfl rfl ?_
    refine gM_at hO dX12_number_26 rfl ?_
    refine aw_cg hp_μ2.at ?_
    refine aw_iconst hO dX12_number_29 rfl ?_
    refine aw_iadd hO dX12_number_30 rfl ?_
    refine pM_at hO dX12_number_31 rfl ?_
    refine aw_mm (fun μ4 e_μ4 => ?_)
    have hp_μ4 := hp_μ2.to (b := (p + 1)) (by omega) (show μ4 = mst μ2 0 3 (((p + 1) : Nat) : Int) by rw [e_μ4]; congr 1 <;> omega)
    have hf_μ4 : Fr (sE) μ μ4 := by rw [e_μ4]; exact hf_μ2.st (⟨rfl, Or.inl rfl⟩) _
    refine aw_aload_n hO dX12_number_34 rfl rfl ?_
    refine aw_callVI (as := []) (st := []) hO dX12_number_35 rfl (lw_t6 144 rfl rfl) kX12_here (T := TX12) rfl (by decide) rfl (ctM_here μ4 hp_μ4.1 hp_μ4.at hp_μ4.le) (by decide) rfl rfl rfl (Nat.le_of_ble_eq_true rfl) ?_
    refine aw_callSI (as := [vI (g (p + 1))]) (st := []) hO dX12_number_38 rfl (lw_t6 165 rfl rfl) kX12_isDigit (ctM_isDigit μ4 (v := (g (p + 1))) ⟨by omega, by omega⟩) (by decide) rfl rfl rfl (Nat.le_of_ble_eq_true rfl) ?_
    refine aw_ifz_eq (tgt := 67) hO dX12_number_41 rfl rfl (fun c41 => ?_) (fun c41 => ?_)
    · refine aw_aload_n hO dX12_number_67 rfl rfl ?_
      refine aw_callVI (as := []) (st := []) hO dX12_number_68 rfl (lw_t6 144 rfl rfl) kX12_here (T := TX12) rfl (by decide) rfl (ctM_here μ4 hp_μ4.1 hp_μ4.at hp_μ4.le) (by decide) rfl rfl rfl (Nat.le_of_ble_eq_true rfl) ?_
      refine aw_callSI (as := [vI (g (p + 1))]) (st := []) hO dX12_number_71 rfl (lw_t6 165 rfl rfl) kX12_isDigit (ctM_isDigit μ4 (v := (g (p + 1))) ⟨by omega, by omega⟩) (by decide) rfl rfl rfl (Nat.le_of_ble_eq_true rfl) ?_
      refine aw_ifz_eq (tgt := 84) hO dX12_number_74 rfl rfl (fun c74 => ?_) (fun c74 => ?_)
      · refine aw_iload_n hO dX12_number_84 rfl rfl ?_
        refine aw_iload_n hO dX12_number_85 rfl rfl ?_
        refine aw_iload_n hO dX12_number_86 rfl rfl ?_
        refine aw_callSI (as := [vI ((g p) - 48), vI lo, vI hi]) (st := []) hO dX12_number_87 rfl (lw_t6 172 rfl rfl) kX12_in (ctM_in μ4 ⟨by omega, by omega⟩ ⟨by omega, by omega⟩ ⟨by omega, by omega⟩) (by decide) rfl rfl rfl (Nat.le_of_ble_eq_true rfl) ?_
        refine aw_ifz_ne (tgt := 107) hO dX12_number_90 rfl rfl (fun c90 => ?_) (fun c90 => ?_)
        · refine aw_iload_n hO dX12_number_107 rfl rfl ?_
          refine aw_iret hO dX12_number_108 ?_
          exact ⟨_, rfl, hf_μ4, by omega, fun q e => by rw [hp, pNb_g c7 (pDg_1 c7 c41) c90] at e; simp at e, fun q v e => by rw [hp, pNb_g c7 (pDg_1 c7 c41) c90] at e; simp only [Prod.mk.injEq, Option.some.injEq] at e; rw [← e.1, ← e.2]; exact ⟨rfl, _, rfl, hp_μ4⟩⟩
        · refine aw_aload_n hO dX12_number_93 rfl rfl ?_
          refine aw_dup hO dX12_number_94 rfl rfl ?_
          refine gM_at hO dX12_number_95 rfl ?_
          refine aw_cg hp_μ4.at ?_
          refine aw_iconst hO dX12_number_98 rfl ?_
          refine aw_isub hO dX12_number_99 rfl ?_
          refine pM_at hO dX12_number_100 rfl ?_
          refine aw_mm (fun μ5 e_μ5 => ?_)
          have hp_μ5 := hp_μ4.to (b := p) (by omega) (show μ5 = mst μ4 0 3 ((p : Nat) : Int) by rw [e_μ5]; congr 1 <;> omega)
          have hf_μ5 : Fr (sE) μ μ5 := by rw [e_μ5]; exact hf_μ4.st (⟨rfl, Or.inl rfl⟩) _
          refine aw_aload_n hO dX12_number_103 rfl rfl ?_
          refine aw_callVV (as := []) (st := []) hO dX12_number_104 rfl (lw_t6 168 rfl rfl) kX12_bad (T := TX12) rfl (by decide) rfl (ctM_bad μ5 hp_μ5.at hp_μ5.wr) (by decide) rfl rfl rfl (Nat.le_of_ble_eq_true rfl) (fun μ7 hq8 => ?_)
          have hb_μ7 := hp_μ5.bad hq8
          have hf_μ7 : Fr (sE) μ μ7 := by rw [hq8]; exact hf_μ5.st (⟨rfl, Or.inr rfl⟩) _
          refine aw_iload_n hO dX12_number_107 rfl rfl ?_
          refine aw_iret hO dX12_number_108 ?_
          exact ⟨_, rfl, hf_μ7, by omega, fun q e => by rw [hp, pNb_r c7 (pDg_1 c7 c41) c90] at e; simp only [Prod.mk.injEq, and_true] at e; rw [← e]; exact hb_μ7, fun q v e => by rw [hp, pNb_r c7 (pDg_1 c7 c41) c90] at e; simp at e⟩
      · exact absurd c74 c41
    · have hlt2 := hG.lt (p := p + 1) (by omega)
      refine aw_bipush hO dX12_number_44 rfl (by decide) (by decide) ?_
      refine aw_iload_n hO dX12_number_46 rfl rfl ?_
      refine aw_imul hO dX12_number_47 rfl ?_
      refine aw_aload_n hO dX12_number_48 rfl rfl ?_
      refine aw_callVI (as := []) (st := [vI (10 * ((g p) - 48))]) hO dX12_number_49 rfl (lw_t6 144 rfl rfl) kX12_here (T := TX12) rfl (by decide) rfl (ctM_here μ4 hp_μ4.1 hp_μ4.at hp_μ4.le) (by decide) rfl rfl rfl (Nat.le_of_ble_eq_true rfl) ?_
      refine aw_iadd hO dX12_number_52 rfl ?_
      refine aw_bipush hO dX12_number_53 rfl (by decide) (by decide) ?_
      refine aw_isub hO dX12_number_55 rfl ?_
      refine aw_istore_n (ls' := [some (vR 0), some (vI lo), some (vI hi), some (vI (((10 * ((g p) - 48)) + (g (p + 1))) - 48))]) hO dX12_number_56 rfl (Nat.le_of_ble_eq_true rfl) rfl rfl ?_
      refine aw_aload_n hO dX12_number_57 rfl rfl ?_
      refine aw_dup hO dX12_number_58 rfl rfl ?_
      refine gM_at hO dX12_number_59 rfl ?_
      refine aw_cg hp_μ4.at ?_
      refine aw_iconst hO dX12_number_62 rfl ?_
      refine aw_iadd hO dX12_number_63 rfl ?_
      refine pM_at hO dX12_number_64 rfl ?_
      refine aw_mm (fun μ9 e_μ9 => ?_)
      have hp_μ9 := hp_μ4.to (b := (p + 2)) (by omega) (show μ9 = mst μ4 0 3 (((p + 2) : Nat) : Int) by rw [e_μ9]; congr 1 <;> omega)
      have hf_μ9 : Fr (sE) μ μ9 := by rw [e_μ9]; exact hf_μ4.st (⟨rfl, Or.inl rfl⟩) _
      refine aw_aload_n hO dX12_number_67 rfl rfl ?_
      refine aw_callVI (as := []) (st := []) hO dX12_number_68 rfl (lw_t6 144 rfl rfl) kX12_here (T := TX12) rfl (by decide) rfl (ctM_here μ9 hp_μ9.1 hp_μ9.at hp_μ9.le) (by decide) rfl rfl rfl (Nat.le_of_ble_eq_true rfl) ?_
      refine aw_callSI (as := [vI (g (p + 2))]) (st := []) hO dX12_number_71 rfl (lw_t6 165 rfl rfl) kX12_isDigit (ctM_isDigit μ9 (v := (g (p + 2))) ⟨by omega, by omega⟩) (by decide) rfl rfl rfl (Nat.le_of_ble_eq_true rfl) ?_
      refine aw_ifz_eq (tgt := 84) hO dX12_number_74 rfl rfl (fun c74 => ?_) (fun c74 => ?_)
      · refine aw_iload_n hO dX12_number_84 rfl rfl ?_
        refine aw_iload_n hO dX12_number_85 rfl rfl ?_
        refine aw_iload_n hO dX12_number_86 rfl rfl ?_
        refine aw_callSI (as := [vI (((10 * ((g p) - 48)) + (g (p + 1))) - 48), vI lo, vI hi]) (st := []) hO dX12_number_87 rfl (lw_t6 172 rfl rfl) kX12_in (ctM_in μ9 ⟨by omega, by omega⟩ ⟨by omega, by omega⟩ ⟨by omega, by omega⟩) (by decide) rfl rfl rfl (Nat.le_of_ble_eq_true rfl) ?_
        refine aw_ifz_ne (tgt := 107) hO dX12_number_90 rfl rfl (fun c90 => ?_) (fun c90 => ?_)
        · refine aw_iload_n hO dX12_number_107 rfl rfl ?_
          refine aw_iret hO dX12_number_108 ?_
          exact ⟨_, rfl, hf_μ9, by omega, fun q e => by rw [hp, pNb_g c7 (pDg_2 c7 c41 c74) c90] at e; simp at e, fun q v e => by rw [hp, pNb_g c7 (pDg_2 c7 c41 c74) c90] at e; simp only [Prod.mk.injEq, Option.some.injEq] at e; rw [← e.1, ← e.2]; exact ⟨rfl, _, rfl, hp_μ9⟩⟩
        · refine aw_aload_n hO dX12_number_93 rfl rfl ?_
          refine aw_dup hO dX12_number_94 rfl rfl ?_
          refine gM_at hO dX12_number_95 rfl ?_
          refine aw_cg hp_μ9.at ?_
          refine aw_iconst hO dX12_number_98 rfl ?_
          refine aw_isub hO dX12_number_99 rfl ?_
          refine pM_at hO dX12_number_100 rfl ?_
          refine aw_mm (fun μ10 e_μ10 => ?_)
          have hp_μ10 := hp_μ9.to (b := (p + 1)) (by omega) (show μ10 = mst μ9 0 3 (((p + 1) : Nat) : Int) by rw [e_μ10]; congr 1 <;> omega)
          have hf_μ10 : Fr (sE) μ μ10 := by rw [e_μ10]; exact hf_μ9.st (⟨rfl, Or.inl rfl⟩) _
          refine aw_aload_n hO dX12_number_103 rfl rfl ?_
          refine aw_callVV (as := []) (st := []) hO dX12_number_104 rfl (lw_t6 168 rfl rfl) kX12_bad (T := TX12) rfl (by decide) rfl (ctM_bad μ10 hp_μ10.at hp_μ10.wr) (by decide) rfl rfl rfl (Nat.le_of_ble_eq_true rfl) (fun μ12 hq13 => ?_)
          have hb_μ12 := hp_μ10.bad hq13
          have hf_μ12 : Fr (sE) μ μ12 := by rw [hq13]; exact hf_μ10.st (⟨rfl, Or.inr rfl⟩) _
          refine aw_iload_n hO dX12_number_107 rfl rfl ?_
          refine aw_iret hO dX12_number_108 ?_
          exact ⟨_, rfl, hf_μ12, by omega, fun q e => by rw [hp, pNb_r c7 (pDg_2 c7 c41 c74) c90] at e; simp only [Prod.mk.injEq, and_true] at e; rw [← e]; exact hb_μ12, fun q v e => by rw [hp, pNb_r c7 (pDg_2 c7 c41 c74) c90] at e; simp at e⟩
      · refine aw_aload_n hO dX12_number_77 rfl rfl ?_
        refine aw_callVV (as := []) (st := []) hO dX12_number_78 rfl (lw_t6 168 rfl rfl) kX12_bad (T := TX12) rfl (by decide) rfl (ctM_bad μ9 hp_μ9.at hp_μ9.wr) (by decide) rfl rfl rfl (Nat.le_of_ble_eq_true rfl) (fun μ15 hq16 => ?_)
        have hb_μ15 := hp_μ9.bad hq16
        have hf_μ15 : Fr (sE) μ μ15 := by rw [hq16]; exact hf_μ9.st (⟨rfl, Or.inr rfl⟩) _
        refine aw_goto (tgt := 107) hO dX12_number_81 rfl ?_
        refine aw_iload_n hO dX12_number_107 rfl rfl ?_
        refine aw_iret hO dX12_number_108 ?_
        exact ⟨_, rfl, hf_μ15, by omega, fun q e => by rw [hp, pNb_b c7 (pDg_3 c7 c41 c74)] at e; simp only [Prod.mk.injEq, and_true] at e; rw [← e]; exact hb_μ15, fun q v e => by rw [hp, pNb_b c7 (pDg_3 c7 c41 c74)] at e; simp at e⟩
  · refine aw_aload_n hO dX12_number_10 rfl rfl ?_
    refine aw_callVV (as := []) (st := []) hO dX12_number_11 rfl (lw_t6 168 rfl rfl) kX12_bad (T := TX12) rfl (by decide) rfl (ctM_bad μ2 hp_μ2.at hp_μ2.wr) (by decide) rfl rfl rfl (Nat.le_of_ble_eq_true rfl) (fun μ18 hq19 => ?_)
    have hb_μ18 := hp_μ2.bad hq19
    have hf_μ18 : Fr (sE) μ μ18 := by rw [hq19]; exact hf_μ2.st (⟨rfl, Or.inr rfl⟩) _
    refine aw_iload_n hO dX12_number_14 rfl rfl ?_
    refine aw_iret hO dX12_number_15 ?_
    exact ⟨_, rfl, hf_μ18, by omega, fun q e => by rw [hp, pNb_n c7] at e; simp only [Prod.mk.injEq, and_true] at e; rw [← e]; exact hb_μ18, fun q v e => by rw [hp, pNb_n c7] at e; simp at e⟩
theorem dX12_itemOf_0 : decode cX12_itemOf 0 = .ok (.iload_n 0, 1) := by decide +kernel
theorem dX12_itemOf_1 : decode cX12_itemOf 1 = .ok (.lookupswitch 111 #[(112, 69), (115, 27)], 27) := by decide +kernel
theorem dX12_itemOf_28 : decode cX12_itemOf 28 = .ok (.iload_n 1, 1) := by decide +kernel
theorem dX12_itemOf_29 : decode cX12_itemOf 29 = .ok (.bipush 99, 2) := by decide +kernel
theorem dX12_itemOf_31 : decode cX12_itemOf 31 = .ok (.if_icmp .ne 7, 3) := by decide +kernel
theorem dX12_itemOf_34 : decode cX12_itemOf 34 = .ok (.iconst 0, 1) := by decide +kernel
theorem dX12_itemOf_35 : decode cX12_itemOf 35 = .ok (.goto 34, 3) := by decide +kernel
theorem dX12_itemOf_38 : decode cX12_itemOf 38 = .ok (.iload_n 1, 1) := by decide +kernel
theorem dX12_itemOf_39 : decode cX12_itemOf 39 = .ok (.bipush 107, 2) := by decide +kernel
theorem dX12_itemOf_41 : decode cX12_itemOf 41 = .ok (.if_icmp .ne 7, 3) := by decide +kernel
theorem dX12_itemOf_44 : decode cX12_itemOf 44 = .ok (.iconst 1, 1) := by decide +kernel
theorem dX12_itemOf_45 : decode cX12_itemOf 45 = .ok (.goto 24, 3) := by decide +kernel
theorem dX12_itemOf_48 : decode cX12_itemOf 48 = .ok (.iload_n 1, 1) := by decide +kernel
theorem dX12_itemOf_49 : decode cX12_itemOf 49 = .ok (.bipush 118, 2) := by decide +kernel
theorem dX12_itemOf_51 : decode cX12_itemOf 51 = .ok (.if_icmp .ne 7, 3) := by decide +kernel
theorem dX12_itemOf_54 : decode cX12_itemOf 54 = .ok (.iconst 2, 1) := by decide +kernel
theorem dX12_itemOf_55 : decode cX12_itemOf 55 = .ok (.goto 14, 3) := by decide +kernel
theorem dX12_itemOf_58 : decode cX12_itemOf 58 = .ok (.iload_n 1, 1) := by decide +kernel
theorem dX12_itemOf_59 : decode cX12_itemOf 59 = .ok (.bipush 109, 2) := by decide +kernel
theorem dX12_itemOf_61 : decode cX12_itemOf 61 = .ok (.if_icmp .ne 7, 3) := by decide +kernel
theorem dX12_itemOf_64 : decode cX12_itemOf 64 = .ok (.iconst 3, 1) := by decide +kernel
theorem dX12_itemOf_65 : decode cX12_itemOf 65 = .ok (.goto 4, 3) := by decide +kernel
theorem dX12_itemOf_68 : decode cX12_itemOf 68 = .ok (.iconst (-1), 1) := by decide +kernel
theorem dX12_itemOf_69 : decode cX12_itemOf 69 = .ok (.ireturn, 1) := by decide +kernel
theorem dX12_itemOf_70 : decode cX12_itemOf 70 = .ok (.iload_n 1, 1) := by decide +kernel
theorem dX12_itemOf_71 : decode cX12_itemOf 71 = .ok (.bipush 99, 2) := by decide +kernel
theorem dX12_itemOf_73 : decode cX12_itemOf 73 = .ok (.if_icmp .ne 7, 3) := by decide +kernel
theorem dX12_itemOf_76 : decode cX12_itemOf 76 = .ok (.iconst 0, 1) := by decide +kernel
theorem dX12_itemOf_77 : decode cX12_itemOf 77 = .ok (.goto 34, 3) := by decide +kernel
theorem dX12_itemOf_80 : decode cX12_itemOf 80 = .ok (.iload_n 1, 1) := by decide +kernel
theorem dX12_itemOf_81 : decode cX12_itemOf 81 = .ok (.bipush 107, 2) := by decide +kernel
theorem dX12_itemOf_83 : decode cX12_itemOf 83 = .ok (.if_icmp .ne 7, 3) := by decide +kernel
theorem dX12_itemOf_86 : decode cX12_itemOf 86 = .ok (.iconst 1, 1) := by decide +kernel
theorem dX12_itemOf_87 : decode cX12_itemOf 87 = .ok (.goto 24, 3) := by decide +kernel
theorem dX12_itemOf_90 : decode cX12_itemOf 90 = .ok (.iload_n 1, 1) := by decide +kernel
theorem dX12_itemOf_91 : decode cX12_itemOf 91 = .ok (.bipush 118, 2) := by decide +kernel
theorem dX12_itemOf_93 : decode cX12_itemOf 93 = .ok (.if_icmp .ne 7, 3) := by decide +kernel
theorem dX12_itemOf_96 : decode cX12_itemOf 96 = .ok (.iconst 2, 1) := by decide +kernel
theorem dX12_itemOf_97 : decode cX12_itemOf 97 = .ok (.goto 14, 3) := by decide +kernel
theorem dX12_itemOf_100 : decode cX12_itemOf 100 = .ok (.iload_n 1, 1) := by decide +kernel
theorem dX12_itemOf_101 : decode cX12_itemOf 101 = .ok (.bipush 115, 2) := by decide +kernel
theorem dX12_itemOf_103 : decode cX12_itemOf 103 = .ok (.if_icmp .ne 7, 3) := by decide +kernel
theorem dX12_itemOf_106 : decode cX12_itemOf 106 = .ok (.iconst 3, 1) := by decide +kernel
theorem dX12_itemOf_107 : decode cX12_itemOf 107 = .ok (.goto 4, 3) := by decide +kernel
theorem dX12_itemOf_110 : decode cX12_itemOf 110 = .ok (.iconst (-1), 1) := by decide +kernel
theorem dX12_itemOf_111 : decode cX12_itemOf 111 = .ok (.ireturn, 1) := by decide +kernel
theorem dX12_itemOf_112 : decode cX12_itemOf 112 = .ok (.iload_n 1, 1) := by decide +kernel
theorem dX12_itemOf_113 : decode cX12_itemOf 113 = .ok (.bipush 119, 2) := by decide +kernel
theorem dX12_itemOf_115 : decode cX12_itemOf 115 = .ok (.if_icmp .ne 7, 3) := by decide +kernel
theorem dX12_itemOf_118 : decode cX12_itemOf 118 = .ok (.iconst 0, 1) := by decide +kernel
theorem dX12_itemOf_119 : decode cX12_itemOf 119 = .ok (.goto 24, 3) := by decide +kernel
theorem dX12_itemOf_122 : decode cX12_itemOf 122 = .ok (.iload_n 1, 1) := by decide +kernel
theorem dX12_itemOf_123 : decode cX12_itemOf 123 = .ok (.bipush 110, 2) := by decide +kernel
theorem dX12_itemOf_125 : decode cX12_itemOf 125 = .ok (.if_icmp .ne 7, 3) := by decide +kernel
theorem dX12_itemOf_128 : decode cX12_itemOf 128 = .ok (.iconst 1, 1) := by decide +kernel
theorem dX12_itemOf_129 : decode cX12_itemOf 129 = .ok (.goto 14, 3) := by decide +kernel
theorem dX12_itemOf_132 : decode cX12_itemOf 132 = .ok (.iload_n 1, 1) := by decide +kernel
theorem dX12_itemOf_133 : decode cX12_itemOf 133 = .ok (.bipush 103, 2) := by decide +kernel
theorem dX12_itemOf_135 : decode cX12_itemOf 135 = .ok (.if_icmp .ne 7, 3) := by decide +kernel
theorem dX12_itemOf_138 : decode cX12_itemOf 138 = .ok (.iconst 2, 1) := by decide +kernel
theorem dX12_itemOf_139 : decode cX12_itemOf 139 = .ok (.goto 4, 3) := by decide +kernel
theorem dX12_itemOf_142 : decode cX12_itemOf 142 = .ok (.iconst (-1), 1) := by decide +kernel
theorem dX12_itemOf_143 : decode cX12_itemOf 143 = .ok (.ireturn, 1) := by decide +kernel
set_option maxHeartbeats 4000000 in
set_option maxRecDepth 100000 in
theorem ctM_itemOf_115a (μ : Mm) {v : Int} (hv : InR v) : CtI PM 0 yX12_itemOf cX12_itemOf 2 (some .int) [vI 115, vI v] μ (if v ≠ 99 then (if v ≠ 107 then (if v ≠ 118 then (if v ≠ 109 then (-1) else 3) else 2) else 1) else 0) := by
  refine ct_intro [some (vI 115), some (vI v)] RX12 (by decide) rfl XM rfl (Nat.le_of_ble_eq_true rfl) (fun K hO => ?_)
  refine aw_iload_n hO dX12_itemOf_0 rfl rfl ?_
  refine aw_lookup (off := 27) (tgt := 28) hO dX12_itemOf_1 (by decide) (inRlit _) rfl rfl ?_
  refine aw_iload_n hO dX12_itemOf_28 rfl rfl ?_
  refine aw_bipush hO dX12_itemOf_29 rfl (by decide) (by decide) ?_
  refine aw_icmp_ne (tgt := 38) hO dX12_itemOf_31 rfl rfl hv (inRlit _) (fun c31 => ?_) (fun c31 => ?_)
  · refine aw_iload_n hO dX12_itemOf_38 rfl rfl ?_
    refine aw_bipush hO dX12_itemOf_39 rfl (by decide) (by decide) ?_
    refine aw_icmp_ne (tgt := 48) hO dX12_itemOf_41 rfl rfl hv (inRlit _) (fun c41 => ?_) (fun c41 => ?_)
    · refine aw_iload_n hO dX12_itemOf_48 rfl rfl ?_
      refine aw_bipush hO dX12_itemOf_49 rfl (by decide) (by decide) ?_
      refine aw_icmp_ne (tgt := 58) hO dX12_itemOf_51 rfl rfl hv (inRlit _) (fun c51 => ?_) (fun c51 => ?_)
      · refine aw_iload_n hO dX12_itemOf_58 rfl rfl ?_
        refine aw_bipush hO dX12_itemOf_59 rfl (by decide) (by decide) ?_
        refine aw_icmp_ne (tgt := 68) hO dX12_itemOf_61 rfl rfl hv (inRlit _) (fun c61 => ?_) (fun c61 => ?_)
        · refine aw_iconst hO dX12_itemOf_68 rfl ?_
          refine aw_iret hO dX12_itemOf_69 ?_
          exact rI (by rw [if_pos c31, if_pos c41, if_pos c51, if_pos c61])
        · refine aw_iconst hO dX12_itemOf_64 rfl ?_
          refine aw_goto (tgt := 69) hO dX12_itemOf_65 rfl ?_
          refine aw_iret hO dX12_itemOf_69 ?_
          exact rI (by rw [if_pos c31, if_pos c41, if_pos c51, if_neg (fun h => h c61)])
      · refine aw_iconst hO dX12_itemOf_54 rfl ?_
        refine aw_goto (tgt := 69) hO dX12_itemOf_55 rfl ?_
        refine aw_iret hO dX12_itemOf_69 ?_
        exact rI (by rw [if_pos c31, if_pos c41, if_neg (fun h => h c51)])
    · refine aw_iconst hO dX12_itemOf_44 rfl ?_
      refine aw_goto (tgt := 69) hO dX12_itemOf_45 rfl ?_
      refine aw_iret hO dX12_itemOf_69 ?_
      exact rI (by rw [if_pos c31, if_neg (fun h => h c41)])
  · refine aw_iconst hO dX12_itemOf_34 rfl ?_
    refine aw_goto (tgt := 69) hO dX12_itemOf_35 rfl ?_
    refine aw_iret hO dX12_itemOf_69 ?_
    exact rI (by rw [if_neg (fun h => h c31)])
theorem itO_115 (v : Int) : (if v ≠ 99 then (if v ≠ 107 then (if v ≠ 118 then (if v ≠ 109 then (-1) else 3) else 2) else 1) else 0) = itO 115 v := by
  unfold itO
  rw [if_pos (rfl : (115 : Int) = 115)]
  repeat' split
  all_goals first | rfl | omega
theorem ctM_itemOf_115 (μ : Mm) {v : Int} (hv : InR v) : CtI PM 0 yX12_itemOf cX12_itemOf 2 (some .int) [vI 115, vI v] μ (itO 115 v) := by rw [← itO_115]; exact ctM_itemOf_115a μ hv
set_option maxHeartbeats 4000000 in
set_option maxRecDepth 100000 in
theorem ctM_itemOf_112a (μ : Mm) {v : Int} (hv : InR v) : CtI PM 0 yX12_itemOf cX12_itemOf 2 (some .int) [vI 112, vI v] μ (if v ≠ 99 then (if v ≠ 107 then (if v ≠ 118 then (if v ≠ 115 then (-1) else 3) else 2) else 1) else 0) := by
  refine ct_intro [some (vI 112), some (vI v)] RX12 (by decide) rfl XM rfl (Nat.le_of_ble_eq_true rfl) (fun K hO => ?_)
  refine aw_iload_n hO dX12_itemOf_0 rfl rfl ?_
  refine aw_lookup (off := 69) (tgt := 70) hO dX12_itemOf_1 (by decide) (inRlit _) rfl rfl ?_
  refine aw_iload_n hO dX12_itemOf_70 rfl rfl ?_
  refine aw_bipush hO dX12_itemOf_71 rfl (by decide) (by decide) ?_
  refine aw_icmp_ne (tgt := 80) hO dX12_itemOf_73 rfl rfl hv (inRlit _) (fun c73 => ?_) (fun c73 => ?_)
  · refine aw_iload_n hO dX12_itemOf_80 rfl rfl ?_
    refine aw_bipush hO dX12_itemOf_81 rfl (by decide) (by decide) ?_
    refine aw_icmp_ne (tgt := 90) hO dX12_itemOf_83 rfl rfl hv (inRlit _) (fun c83 => ?_) (fun c83 => ?_)
    · refine aw_iload_n hO dX12_itemOf_90 rfl rfl ?_
      refine aw_bipush hO dX12_itemOf_91 rfl (by decide) (by decide) ?_
      refine aw_icmp_ne (tgt := 100) hO dX12_itemOf_93 rfl rfl hv (inRlit _) (fun c93 => ?_) (fun c93 => ?_)
      · refine aw_iload_n hO dX12_itemOf_100 rfl rfl ?_
        refine aw_bipush hO dX12_itemOf_101 rfl (by decide) (by decide) ?_
        refine aw_icmp_ne (tgt := 110) hO dX12_itemOf_103 rfl rfl hv (inRlit _) (fun c103 => ?_) (fun c103 => ?_)
        · refine aw_iconst hO dX12_itemOf_110 rfl ?_
          refine aw_iret hO dX12_itemOf_111 ?_
          exact rI (by rw [if_pos c73, if_pos c83, if_pos c93, if_pos c103])
        · refine aw_iconst hO dX12_itemOf_106 rfl ?_
          refine aw_goto (tgt := 111) hO dX12_itemOf_107 rfl ?_
          refine aw_iret hO dX12_itemOf_111 ?_
          exact rI (by rw [if_pos c73, if_pos c83, if_pos c93, if_neg (fun h => h c103)])
      · refine aw_iconst hO dX12_itemOf_96 rfl ?_
        refine aw_goto (tgt := 111) hO dX12_itemOf_97 rfl ?_
        refine aw_iret hO dX12_itemOf_111 ?_
        exact rI (by rw [if_pos c73, if_pos c83, if_neg (fun h => h c93)])
    · refine aw_iconst hO dX12_itemOf_86 rfl ?_
      refine aw_goto (tgt := 111) hO dX12_itemOf_87 rfl ?_
      refine aw_iret hO dX12_itemOf_111 ?_
      exact rI (by rw [if_pos c73, if_neg (fun h => h c83)])
  · refine aw_iconst hO dX12_itemOf_76 rfl ?_
    refine aw_goto (tgt := 111) hO dX12_itemOf_77 rfl ?_
    refine aw_iret hO dX12_itemOf_111 ?_
    exact rI (by rw [if_neg (fun h => h c73)])
theorem itO_112 (v : Int) : (if v ≠ 99 then (if v ≠ 107 then (if v ≠ 118 then (if v ≠ 115 then (-1) else 3) else 2) else 1) else 0) = itO 112 v := by
  unfold itO
  rw [if_neg (show ¬ (112 : Int) = 115 by decide), if_pos (rfl : (112 : Int) = 112)]
  repeat' split
  all_goals first | rfl | omega
theorem ctM_itemOf_112 (μ : Mm) {v : Int} (hv : InR v) : CtI PM 0 yX12_itemOf cX12_itemOf 2 (some .int) [vI 112, vI v] μ (itO 112 v) := by rw [← itO_112]; exact ctM_itemOf_112a μ hv
set_option maxHeartbeats 4000000 in
set_option maxRecDepth 100000 in
theorem ctM_itemOf_116a (μ : Mm) {v : Int} (hv : InR v) : CtI PM 0 yX12_itemOf cX12_itemOf 2 (some .int) [vI 116, vI v] μ (if v ≠ 119 then (if v ≠ 110 then (if v ≠ 103 then (-1) else 2) else 1) else 0) := by
  refine ct_intro [some (vI 116), some (vI v)] RX12 (by decide) rfl XM rfl (Nat.le_of_ble_eq_true rfl) (fun K hO => ?_)
  refine aw_iload_n hO dX12_itemOf_0 rfl rfl ?_
  refine aw_lookup (off := 111) (tgt := 112) hO dX12_itemOf_1 (by decide) (inRlit _) rfl rfl ?_
  refine aw_iload_n hO dX12_itemOf_112 rfl rfl ?_
  refine aw_bipush hO dX12_itemOf_113 rfl (by decide) (by decide) ?_
  refine aw_icmp_ne (tgt := 122) hO dX12_itemOf_115 rfl rfl hv (inRlit _) (fun c115 => ?_) (fun c115 => ?_)
  · refine aw_iload_n hO dX12_itemOf_122 rfl rfl ?_
    refine aw_bipush hO dX12_itemOf_123 rfl (by decide) (by decide) ?_
    refine aw_icmp_ne (tgt := 132) hO dX12_itemOf_125 rfl rfl hv (inRlit _) (fun c125 => ?_) (fun c125 => ?_)
    · refine aw_iload_n hO dX12_itemOf_132 rfl rfl ?_
      refine aw_bipush hO dX12_itemOf_133 rfl (by decide) (by decide) ?_
      refine aw_icmp_ne (tgt := 142) hO dX12_itemOf_135 rfl rfl hv (inRlit _) (fun c135 => ?_) (fun c135 => ?_)
      · refine aw_iconst hO dX12_itemOf_142 rfl ?_
        refine aw_iret hO dX12_itemOf_143 ?_
        exact rI (by rw [if_pos c115, if_pos c125, if_pos c135])
      · refine aw_iconst hO dX12_itemOf_138 rfl ?_
        refine aw_goto (tgt := 143) hO dX12_itemOf_139 rfl ?_
        refine aw_iret hO dX12_itemOf_143 ?_
        exact rI (by rw [if_pos c115, if_pos c125, if_neg (fun h => h c135)])
    · refine aw_iconst hO dX12_itemOf_128 rfl ?_
      refine aw_goto (tgt := 143) hO dX12_itemOf_129 rfl ?_
      refine aw_iret hO dX12_itemOf_143 ?_
      exact rI (by rw [if_pos c115, if_neg (fun h => h c125)])
  · refine aw_iconst hO dX12_itemOf_118 rfl ?_
    refine aw_goto (tgt := 143) hO dX12_itemOf_119 rfl ?_
    refine aw_iret hO dX12_itemOf_143 ?_
    exact rI (by rw [if_neg (fun h => h c115)])
theorem itO_116 (v : Int) : (if v ≠ 119 then (if v ≠ 110 then (if v ≠ 103 then (-1) else 2) else 1) else 0) = itO 116 v := by
  unfold itO
  rw [if_neg (show ¬ (116 : Int) = 115 by decide), if_neg (show ¬ (116 : Int) = 112 by decide)]
  repeat' split
  all_goals first | rfl | omega
theorem ctM_itemOf_116 (μ : Mm) {v : Int} (hv : InR v) : CtI PM 0 yX12_itemOf cX12_itemOf 2 (some .int) [vI 116, vI v] μ (itO 116 v) := by rw [← itO_116]; exact ctM_itemOf_116a μ hv
theorem dX12_highest_0 : decode cX12_highest 0 = .ok (.iload_n 0, 1) := by decide +kernel
theorem dX12_highest_1 : decode cX12_highest 1 = .ok (.lookupswitch 53 #[(112, 40), (115, 27)], 27) := by decide +kernel
theorem dX12_highest_28 : decode cX12_highest 28 = .ok (.iload_n 1, 1) := by decide +kernel
theorem dX12_highest_29 : decode cX12_highest 29 = .ok (.iconst 3, 1) := by decide +kernel
theorem dX12_highest_30 : decode cX12_highest 30 = .ok (.if_icmp .ne 8, 3) := by decide +kernel
theorem dX12_highest_33 : decode cX12_highest 33 = .ok (.bipush 99, 2) := by decide +kernel
theorem dX12_highest_35 : decode cX12_highest 35 = .ok (.goto 5, 3) := by decide +kernel
theorem dX12_highest_38 : decode cX12_highest 38 = .ok (.bipush 9, 2) := by decide +kernel
theorem dX12_highest_40 : decode cX12_highest 40 = .ok (.ireturn, 1) := by decide +kernel
theorem dX12_highest_41 : decode cX12_highest 41 = .ok (.iload_n 1, 1) := by decide +kernel
theorem dX12_highest_42 : decode cX12_highest 42 = .ok (.iconst 3, 1) := by decide +kernel
theorem dX12_highest_43 : decode cX12_highest 43 = .ok (.if_icmp .ne 8, 3) := by decide +kernel
theorem dX12_highest_46 : decode cX12_highest 46 = .ok (.bipush 20, 2) := by decide +kernel
theorem dX12_highest_48 : decode cX12_highest 48 = .ok (.goto 5, 3) := by decide +kernel
theorem dX12_highest_51 : decode cX12_highest 51 = .ok (.bipush 9, 2) := by decide +kernel
theorem dX12_highest_53 : decode cX12_highest 53 = .ok (.ireturn, 1) := by decide +kernel
theorem dX12_highest_54 : decode cX12_highest 54 = .ok (.iload_n 1, 1) := by decide +kernel
theorem dX12_highest_55 : decode cX12_highest 55 = .ok (.ifCond .ne 7, 3) := by decide +kernel
theorem dX12_highest_58 : decode cX12_highest 58 = .ok (.iconst 2, 1) := by decide +kernel
theorem dX12_highest_59 : decode cX12_highest 59 = .ok (.goto 5, 3) := by decide +kernel
theorem dX12_highest_62 : decode cX12_highest 62 = .ok (.bipush 9, 2) := by decide +kernel
theorem dX12_highest_64 : decode cX12_highest 64 = .ok (.ireturn, 1) := by decide +kernel
set_option maxHeartbeats 4000000 in
set_option maxRecDepth 100000 in
theorem ctM_highest_115a (μ : Mm) {v : Int} (hv : InR v) : CtI PM 0 yX12_highest cX12_highest 2 (some .int) [vI 115, vI v] μ (if v ≠ 3 then 9 else 99) := by
  refine ct_intro [some (vI 115), some (vI v)] RX12 (by decide) rfl XM rfl (Nat.le_of_ble_eq_true rfl) (fun K hO => ?_)
  refine aw_iload_n hO dX12_highest_0 rfl rfl ?_
  refine aw_lookup (off := 27) (tgt := 28) hO dX12_highest_1 (by decide) (inRlit _) rfl rfl ?_
  refine aw_iload_n hO dX12_highest_28 rfl rfl ?_
  refine aw_iconst hO dX12_highest_29 rfl ?_
  refine aw_icmp_ne (tgt := 38) hO dX12_highest_30 rfl rfl hv (inRlit _) (fun c30 => ?_) (fun c30 => ?_)
  · refine aw_bipush hO dX12_highest_38 rfl (by decide) (by decide) ?_
    refine aw_iret hO dX12_highest_40 ?_
    exact rI (by rw [if_pos c30])
  · refine aw_bipush hO dX12_highest_33 rfl (by decide) (by decide) ?_
    refine aw_goto (tgt := 40) hO dX12_highest_35 rfl ?_
    refine aw_iret hO dX12_highest_40 ?_
    exact rI (by rw [if_neg (fun h => h c30)])
theorem hiO_115 (v : Int) : (if v ≠ 3 then 9 else 99) = hiO 115 v := by
  unfold hiO
  rw [if_pos (rfl : (115 : Int) = 115)]
  repeat' split
  all_goals first | rfl | omega
theorem ctM_highest_115 (μ : Mm) {v : Int} (hv : InR v) : CtI PM 0 yX12_highest cX12_highest 2 (some .int) [vI 115, vI v] μ (hiO 115 v) := by rw [← hiO_115]; exact ctM_highest_115a μ hv
set_option maxHeartbeats 4000000 in
set_option maxRecDepth 100000 in
theorem ctM_highest_112a (μ : Mm) {v : Int} (hv : InR v) : CtI PM 0 yX12_highest cX12_highest 2 (some .int) [vI 112, vI v] μ (if v ≠ 3 then 9 else 20) := by
  refine ct_intro [some (vI 112), some (vI v)] RX12 (by decide) rfl XM rfl (Nat.le_of_ble_eq_true rfl) (fun K hO => ?_)
  refine aw_iload_n hO dX12_highest_0 rfl rfl ?_
  refine aw_lookup (off := 40) (tgt := 41) hO dX12_highest_1 (by decide) (inRlit _) rfl rfl ?_
  refine aw_iload_n hO dX12_highest_41 rfl rfl ?_
  refine aw_iconst hO dX12_highest_42 rfl ?_
  refine aw_icmp_ne (tgt := 51) hO dX12_highest_43 rfl rfl hv (inRlit _) (fun c43 => ?_) (fun c43 => ?_)
  · refine aw_bipush hO dX12_highest_51 rfl (by decide) (by decide) ?_
    refine aw_iret hO dX12_highest_53 ?_
    exact rI (by rw [if_pos c43])
  · refine aw_bipush hO dX12_highest_46 rfl (by decide) (by decide) ?_
    refine aw_goto (tgt := 53) hO dX12_highest_48 rfl ?_
    refine aw_iret hO dX12_highest_53 ?_
    exact rI (by rw [if_neg (fun h => h c43)])
theorem hiO_112 (v : Int) : (if v ≠ 3 then 9 else 20) = hiO 112 v := by
  unfold hiO
  rw [if_neg (show ¬ (112 : Int) = 115 by decide), if_pos (rfl : (112 : Int) = 112)]
  repeat' split
  all_goals first | rfl | omega
theorem ctM_highest_112 (μ : Mm) {v : Int} (hv : InR v) : CtI PM 0 yX12_highest cX12_highest 2 (some .int) [vI 112, vI v] μ (hiO 112 v) := by rw [← hiO_112]; exact ctM_highest_112a μ hv
set_option maxHeartbeats 4000000 in
set_option maxRecDepth 100000 in
theorem ctM_highest_116a (μ : Mm) {v : Int} (hv : InR v) : CtI PM 0 yX12_highest cX12_highest 2 (some .int) [vI 116, vI v] μ (if v ≠ 0 then 9 else 2) := by
  refine ct_intro [some (vI 116), some (vI v)] RX12 (by decide) rfl XM rfl (Nat.le_of_ble_eq_true rfl) (fun K hO => ?_)
  refine aw_iload_n hO dX12_highest_0 rfl rfl ?_
  refine aw_lookup (off := 53) (tgt := 54) hO dX12_highest_1 (by decide) (inRlit _) rfl rfl ?_
  refine aw_iload_n hO dX12_highest_54 rfl rfl ?_
  refine aw_if_ne (tgt := 62) hO dX12_highest_55 rfl rfl hv (fun c55 => ?_) (fun c55 => ?_)
  · refine aw_bipush hO dX12_highest_62 rfl (by decide) (by decide) ?_
    refine aw_iret hO dX12_highest_64 ?_
    exact rI (by rw [if_pos c55])
  · refine aw_iconst hO dX12_highest_58 rfl ?_
    refine aw_goto (tgt := 64) hO dX12_highest_59 rfl ?_
    refine aw_iret hO dX12_highest_64 ?_
    exact rI (by rw [if_neg (fun h => h c55)])
theorem hiO_116 (v : Int) : (if v ≠ 0 then 9 else 2) = hiO 116 v := by
  unfold hiO
  rw [if_neg (show ¬ (116 : Int) = 115 by decide), if_neg (show ¬ (116 : Int) = 112 by decide)]
  repeat' split
  all_goals first | rfl | omega
theorem ctM_highest_116 (μ : Mm) {v : Int} (hv : InR v) : CtI PM 0 yX12_highest cX12_highest 2 (some .int) [vI 116, vI v] μ (hiO 116 v) := by rw [← hiO_116]; exact ctM_highest_116a μ hv
theorem dX12_usual_0 : decode cX12_usual 0 = .ok (.iload_n 0, 1) := by decide +kernel
theorem dX12_usual_1 : decode cX12_usual 1 = .ok (.lookupswitch 68 #[(112, 48), (115, 27)], 27) := by decide +kernel
theorem dX12_usual_28 : decode cX12_usual 28 = .ok (.iload_n 1, 1) := by decide +kernel
theorem dX12_usual_29 : decode cX12_usual 29 = .ok (.iconst 3, 1) := by decide +kernel
theorem dX12_usual_30 : decode cX12_usual 30 = .ok (.if_icmp .ne 8, 3) := by decide +kernel
theorem dX12_usual_33 : decode cX12_usual 33 = .ok (.bipush 20, 2) := by decide +kernel
theorem dX12_usual_35 : decode cX12_usual 35 = .ok (.goto 13, 3) := by decide +kernel
theorem dX12_usual_38 : decode cX12_usual 38 = .ok (.iload_n 1, 1) := by decide +kernel
theorem dX12_usual_39 : decode cX12_usual 39 = .ok (.iconst 2, 1) := by decide +kernel
theorem dX12_usual_40 : decode cX12_usual 40 = .ok (.if_icmp .ne 7, 3) := by decide +kernel
theorem dX12_usual_43 : decode cX12_usual 43 = .ok (.iconst 2, 1) := by decide +kernel
theorem dX12_usual_44 : decode cX12_usual 44 = .ok (.goto 4, 3) := by decide +kernel
theorem dX12_usual_47 : decode cX12_usual 47 = .ok (.iconst 3, 1) := by decide +kernel
theorem dX12_usual_48 : decode cX12_usual 48 = .ok (.ireturn, 1) := by decide +kernel
theorem dX12_usual_49 : decode cX12_usual 49 = .ok (.iload_n 1, 1) := by decide +kernel
theorem dX12_usual_50 : decode cX12_usual 50 = .ok (.iconst 3, 1) := by decide +kernel
theorem dX12_usual_51 : decode cX12_usual 51 = .ok (.if_icmp .ne 7, 3) := by decide +kernel
theorem dX12_usual_54 : decode cX12_usual 54 = .ok (.iconst 0, 1) := by decide +kernel
theorem dX12_usual_55 : decode cX12_usual 55 = .ok (.goto 13, 3) := by decide +kernel
theorem dX12_usual_58 : decode cX12_usual 58 = .ok (.iload_n 1, 1) := by decide +kernel
theorem dX12_usual_59 : decode cX12_usual 59 = .ok (.iconst 2, 1) := by decide +kernel
theorem dX12_usual_60 : decode cX12_usual 60 = .ok (.if_icmp .ne 7, 3) := by decide +kernel
theorem dX12_usual_63 : decode cX12_usual 63 = .ok (.iconst 2, 1) := by decide +kernel
theorem dX12_usual_64 : decode cX12_usual 64 = .ok (.goto 4, 3) := by decide +kernel
theorem dX12_usual_67 : decode cX12_usual 67 = .ok (.iconst 4, 1) := by decide +kernel
theorem dX12_usual_68 : decode cX12_usual 68 = .ok (.ireturn, 1) := by decide +kernel
theorem dX12_usual_69 : decode cX12_usual 69 = .ok (.iload_n 1, 1) := by decide +kernel
theorem dX12_usual_70 : decode cX12_usual 70 = .ok (.ifCond .ne 7, 3) := by decide +kernel
theorem dX12_usual_73 : decode cX12_usual 73 = .ok (.iconst 0, 1) := by decide +kernel
theorem dX12_usual_74 : decode cX12_usual 74 = .ok (.goto 13, 3) := by decide +kernel
theorem dX12_usual_77 : decode cX12_usual 77 = .ok (.iload_n 1, 1) := by decide +kernel
theorem dX12_usual_78 : decode cX12_usual 78 = .ok (.iconst 1, 1) := by decide +kernel
theorem dX12_usual_79 : decode cX12_usual 79 = .ok (.if_icmp .ne 7, 3) := by decide +kernel
theorem dX12_usual_82 : decode cX12_usual 82 = .ok (.iconst 5, 1) := by decide +kernel
theorem dX12_usual_83 : decode cX12_usual 83 = .ok (.goto 4, 3) := by decide +kernel
theorem dX12_usual_86 : decode cX12_usual 86 = .ok (.iconst 3, 1) := by decide +kernel
theorem dX12_usual_87 : decode cX12_usual 87 = .ok (.ireturn, 1) := by decide +kernel
set_option maxHeartbeats 4000000 in
set_option maxRecDepth 100000 in
theorem ctM_usual_115a (μ : Mm) {v : Int} (hv : InR v) : CtI PM 0 yX12_usual cX12_usual 2 (some .int) [vI 115, vI v] μ (if v ≠ 3 then (if v ≠ 2 then 3 else 2) else 20) := by
  refine ct_intro [some (vI 115), some (vI v)] RX12 (by decide) rfl XM rfl (Nat.le_of_ble_eq_true rfl) (fun K hO => ?_)
  refine aw_iload_n hO dX12_usual_0 rfl rfl ?_
  refine aw_lookup (off := 27) (tgt := 28) hO dX12_usual_1 (by decide) (inRlit _) rfl rfl ?_
  refine aw_iload_n hO dX12_usual_28 rfl rfl ?_
  refine aw_iconst hO dX12_usual_29 rfl ?_
  refine aw_icmp_ne (tgt := 38) hO dX12_usual_30 rfl rfl hv (inRlit _) (fun c30 => ?_) (fun c30 => ?_)
  · refine aw_iload_n hO dX12_usual_38 rfl rfl ?_
    refine aw_iconst hO dX12_usual_39 rfl ?_
    refine aw_icmp_ne (tgt := 47) hO dX12_usual_40 rfl rfl hv (inRlit _) (fun c40 => ?_) (fun c40 => ?_)
    · refine aw_iconst hO dX12_usual_47 rfl ?_
      refine aw_iret hO dX12_usual_48 ?_
      exact rI (by rw [if_pos c30, if_pos c40])
    · refine aw_iconst hO dX12_usual_43 rfl ?_
      refine aw_goto (tgt := 48) hO dX12_usual_44 rfl ?_
      refine aw_iret hO dX12_usual_48 ?_
      exact rI (by rw [if_pos c30, if_neg (fun h => h c40)])
  · refine aw_bipush hO dX12_usual_33 rfl (by decide) (by decide) ?_
    refine aw_goto (tgt := 48) hO dX12_usual_35 rfl ?_
    refine aw_iret hO dX12_usual_48 ?_
    exact rI (by rw [if_neg (fun h => h c30)])
theorem usO_115 (v : Int) : (if v ≠ 3 then (if v ≠ 2 then 3 else 2) else 20) = usO 115 v := by
  unfold usO
  rw [if_pos (rfl : (115 : Int) = 115)]
  repeat' split
  all_goals first | rfl | omega
theorem ctM_usual_115 (μ : Mm) {v : Int} (hv : InR v) : CtI PM 0 yX12_usual cX12_usual 2 (some .int) [vI 115, vI v] μ (usO 115 v) := by rw [← usO_115]; exact ctM_usual_115a μ hv
set_option maxHeartbeats 4000000 in
set_option maxRecDepth 100000 in
theorem ctM_usual_112a (μ : Mm) {v : Int} (hv : InR v) : CtI PM 0 yX12_usual cX12_usual 2 (some .int) [vI 112, vI v] μ (if v ≠ 3 then (if v ≠ 2 then 4 else 2) else 0) := by
  refine ct_intro [some (vI 112), some (vI v)] RX12 (by decide) rfl XM rfl (Nat.le_of_ble_eq_true rfl) (fun K hO => ?_)
  refine aw_iload_n hO dX12_usual_0 rfl rfl ?_
  refine aw_lookup (off := 48) (tgt := 49) hO dX12_usual_1 (by decide) (inRlit _) rfl rfl ?_
  refine aw_iload_n hO dX12_usual_49 rfl rfl ?_
  refine aw_iconst hO dX12_usual_50 rfl ?_
  refine aw_icmp_ne (tgt := 58) hO dX12_usual_51 rfl rfl hv (inRlit _) (fun c51 => ?_) (fun c51 => ?_)
  · refine aw_iload_n hO dX12_usual_58 rfl rfl ?_
    refine aw_iconst hO dX12_usual_59 rfl ?_
    refine aw_icmp_ne (tgt := 67) hO dX12_usual_60 rfl rfl hv (inRlit _) (fun c60 => ?_) (fun c60 => ?_)
    · refine aw_iconst hO dX12_usual_67 rfl ?_
      refine aw_iret hO dX12_usual_68 ?_
      exact rI (by rw [if_pos c51, if_pos c60])
    · refine aw_iconst hO dX12_usual_63 rfl ?_
      refine aw_goto (tgt := 68) hO dX12_usual_64 rfl ?_
      refine aw_iret hO dX12_usual_68 ?_
      exact rI (by rw [if_pos c51, if_neg (fun h => h c60)])
  · refine aw_iconst hO dX12_usual_54 rfl ?_
    refine aw_goto (tgt := 68) hO dX12_usual_55 rfl ?_
    refine aw_iret hO dX12_usual_68 ?_
    exact rI (by rw [if_neg (fun h => h c51)])
theorem usO_112 (v : Int) : (if v ≠ 3 then (if v ≠ 2 then 4 else 2) else 0) = usO 112 v := by
  unfold usO
  rw [if_neg (show ¬ (112 : Int) = 115 by decide), if_pos (rfl : (112 : Int) = 112)]
  repeat' split
  all_goals first | rfl | omega
theorem ctM_usual_112 (μ : Mm) {v : Int} (hv : InR v) : CtI PM 0 yX12_usual cX12_usual 2 (some .int) [vI 112, vI v] μ (usO 112 v) := by rw [← usO_112]; exact ctM_usual_112a μ hv
set_option maxHeartbeats 4000000 in
set_option maxRecDepth 100000 in
theorem ctM_usual_116a (μ : Mm) {v : Int} (hv : InR v) : CtI PM 0 yX12_usual cX12_usual 2 (some .int) [vI 116, vI v] μ (if v ≠ 0 then (if v ≠ 1 then 3 else 5) else 0) := by
  refine ct_intro [some (vI 116), some (vI v)] RX12 (by decide) rfl XM rfl (Nat.le_of_ble_eq_true rfl) (fun K hO => ?_)
  refine aw_iload_n hO dX12_usual_0 rfl rfl ?_
  refine aw_lookup (off := 68) (tgt := 69) hO dX12_usual_1 (by decide) (inRlit _) rfl rfl ?_
  refine aw_iload_n hO dX12_usual_69 rfl rfl ?_
  refine aw_if_ne (tgt := 77) hO dX12_usual_70 rfl rfl hv (fun c70 => ?_) (fun c70 => ?_)
  · refine aw_iload_n hO dX12_usual_77 rfl rfl ?_
    refine aw_iconst hO dX12_usual_78 rfl ?_
    refine aw_icmp_ne (tgt := 86) hO dX12_usual_79 rfl rfl hv (inRlit _) (fun c79 => ?_) (fun c79 => ?_)
    · refine aw_iconst hO dX12_usual_86 rfl ?_
      refine aw_iret hO dX12_usual_87 ?_
      exact rI (by rw [if_pos c70, if_pos c79])
    · refine aw_iconst hO dX12_usual_82 rfl ?_
      refine aw_goto (tgt := 87) hO dX12_usual_83 rfl ?_
      refine aw_iret hO dX12_usual_87 ?_
      exact rI (by rw [if_pos c70, if_neg (fun h => h c79)])
  · refine aw_iconst hO dX12_usual_73 rfl ?_
    refine aw_goto (tgt := 87) hO dX12_usual_74 rfl ?_
    refine aw_iret hO dX12_usual_87 ?_
    exact rI (by rw [if_neg (fun h => h c70)])
theorem usO_116 (v : Int) : (if v ≠ 0 then (if v ≠ 1 then 3 else 5) else 0) = usO 116 v := by
  unfold usO
  rw [if_neg (show ¬ (116 : Int) = 115 by decide), if_neg (show ¬ (116 : Int) = 112 by decide)]
  repeat' split
  all_goals first | rfl | omega
theorem ctM_usual_116 (μ : Mm) {v : Int} (hv : InR v) : CtI PM 0 yX12_usual cX12_usual 2 (some .int) [vI 116, vI v] μ (usO 116 v) := by rw [← usO_116]; exact ctM_usual_116a μ hv
