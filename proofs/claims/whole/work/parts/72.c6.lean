/-! ## the end of a year; a year by draws -/
theorem fu_self {f : Nat → Int} {i : Nat} {v : Int} (h : f i = v) : fu f i v = f := by
  funext j
  unfold fu
  by_cases e : j = i
  · rw [if_pos e, e, h]
  · rw [if_neg e]
theorem fu_comm {f : Nat → Int} {i j : Nat} {v w : Int} (h : i ≠ j) : fu (fu f i v) j w = fu (fu f j w) i v := by
  funext k
  unfold fu
  by_cases e : k = i
  · rw [if_pos e, if_neg (by omega), if_pos e]
  · by_cases e2 : k = j
    · rw [if_pos e2, if_neg e, if_pos e2]
    · rw [if_neg e2, if_neg e, if_neg e, if_neg e2]
theorem ri_18 : ∀ i : Fin 38, 9 ≤ i.val → i.val < 27 → ri i.val < 18 := by decide
theorem ri_oth : ∀ i : Fin 38, i.val ≠ 8 → ¬ (9 ≤ i.val ∧ i.val < 27) → 18 ≤ ri i.val := by decide
theorem ri_27 {i : Nat} (h : 27 ≤ i) : ri i = i - 9 := by unfold ri; rw [if_neg (by omega), if_neg (by omega), if_neg (by omega)]
/-- a year's end, on the row -/
theorem SR.endY {f g f' : Nat → Int} (h : SR f g) (h3 : f' 3 = min 999 (f 3 + 3)) (h6 : f' 6 = f 6 + 1) (h0 : f' 0 = 0) (h1 : f' 1 = 0) (hm : ∀ i, 9 ≤ i → i < 27 → f' i = 0) (ho : ∀ i, i < 38 → i ≠ 8 → i ≠ 0 → i ≠ 1 → i ≠ 3 → i ≠ 6 → ¬ (9 ≤ i ∧ i < 27) → f' i = f i) : SR f' (endF g) := SR_iff.mpr (fun i hi h8 => by
  have hs := SR_iff.mp h
  unfold endF
  by_cases c0 : i = 0
  · subst c0; rw [h0, show ri 0 = 29 from rfl]; rfl
  · by_cases c1 : i = 1
    · subst c1; rw [h1, show ri 1 = 30 from rfl]; rfl
    · by_cases c3 : i = 3
      · subst c3; rw [h3, hs 3 hi h8, show ri 3 = 33 from rfl]; rfl
      · by_cases c6 : i = 6
        · subst c6; rw [h6, hs 6 hi h8, show ri 6 = 36 from rfl]; rfl
        · by_cases cm : 9 ≤ i ∧ i < 27
          · rw [hm i cm.1 cm.2, if_pos (ri_18 ⟨i, hi⟩ cm.1 cm.2)]
          · rw [ho i hi h8 c0 c1 c3 c6 cm, hs i hi h8]
            have n1 := ri_oth ⟨i, hi⟩ h8 cm
            have n2 := fun j hj hj8 (e : j ≠ i) => ri_inj ⟨j, hj⟩ ⟨i, hi⟩ hj8 h8 e
            have a0 := n2 0 (by decide) (by decide) (Ne.symm c0)
            have a1 := n2 1 (by decide) (by decide) (Ne.symm c1)
            have a3 := n2 3 (by decide) (by decide) (Ne.symm c3)
            have a6 := n2 6 (by decide) (by decide) (Ne.symm c6)
            simp only [show ri 0 = 29 from rfl, show ri 1 = 30 from rfl, show ri 3 = 33 from rfl, show ri 6 = 36 from rfl] at a0 a1 a3 a6 n1
            rw [if_neg (by omega), if_neg (by omega), if_neg (by omega), if_neg (by omega)])
theorem liveF_hi {ν : Mm} (h : MB ν) {i : Nat} (hi : 37 ≤ i) : liveF ν i = ν.1 17 i := by
  have hn := h.np
  have ht := h.nt
  have hp := pickM_rng ν (ν.1 0 25).toNat
  unfold liveF endF
  rw [if_neg (by omega), if_neg (by omega), if_neg (by omega), if_neg (by omega), trbF_ne (by omega) _ (by omega), crownF_ne (by unfold chM; omega) (by omega) (by omega) (by omega)]
def eS (s k i : Nat) : Prop := jS k i ∨ k = s + 1
theorem dX1_endYear_0 : decode cX1_endYear 0 = .ok (.aload_n 0, 1) := by decide +kernel
theorem dX1_endYear_1 : decode cX1_endYear 1 = .ok (.getfield 19, 3) := by decide +kernel
theorem dX1_endYear_4 : decode cX1_endYear 4 = .ok (.aload_n 1, 1) := by decide +kernel
theorem dX1_endYear_5 : decode cX1_endYear 5 = .ok (.invokevirtual 59, 3) := by decide +kernel
theorem dX1_endYear_8 : decode cX1_endYear 8 = .ok (.istore_n 2, 1) := by decide +kernel
theorem dX1_endYear_9 : decode cX1_endYear 9 = .ok (.iload_n 2, 1) := by decide +kernel
theorem dX1_endYear_10 : decode cX1_endYear 10 = .ok (.iconst (-1), 1) := by decide +kernel
theorem dX1_endYear_11 : decode cX1_endYear 11 = .ok (.if_icmp .eq 18, 3) := by decide +kernel
theorem dX1_endYear_14 : decode cX1_endYear 14 = .ok (.aload_n 0, 1) := by decide +kernel
theorem dX1_endYear_15 : decode cX1_endYear 15 = .ok (.getfield 19, 3) := by decide +kernel
theorem dX1_endYear_18 : decode cX1_endYear 18 = .ok (.aload_n 1, 1) := by decide +kernel
theorem dX1_endYear_19 : decode cX1_endYear 19 = .ok (.invokevirtual 65, 3) := by decide +kernel
theorem dX1_endYear_22 : decode cX1_endYear 22 = .ok (.ifCond .ne 7, 3) := by decide +kernel
theorem dX1_endYear_25 : decode cX1_endYear 25 = .ok (.iconst 1, 1) := by decide +kernel
theorem dX1_endYear_26 : decode cX1_endYear 26 = .ok (.goto 4, 3) := by decide +kernel
theorem dX1_endYear_29 : decode cX1_endYear 29 = .ok (.iconst 0, 1) := by decide +kernel
theorem dX1_endYear_30 : decode cX1_endYear 30 = .ok (.istore_n 3, 1) := by decide +kernel
theorem dX1_endYear_31 : decode cX1_endYear 31 = .ok (.iload_n 2, 1) := by decide +kernel
theorem dX1_endYear_32 : decode cX1_endYear 32 = .ok (.iconst (-1), 1) := by decide +kernel
theorem dX1_endYear_33 : decode cX1_endYear 33 = .ok (.if_icmp .eq 9, 3) := by decide +kernel
theorem dX1_endYear_36 : decode cX1_endYear 36 = .ok (.aload_n 1, 1) := by decide +kernel
theorem dX1_endYear_37 : decode cX1_endYear 37 = .ok (.iload_n 2, 1) := by decide +kernel
theorem dX1_endYear_38 : decode cX1_endYear 38 = .ok (.iload_n 3, 1) := by decide +kernel
theorem dX1_endYear_39 : decode cX1_endYear 39 = .ok (.invokevirtual 68, 3) := by decide +kernel
theorem dX1_endYear_42 : decode cX1_endYear 42 = .ok (.aload_n 0, 1) := by decide +kernel
theorem dX1_endYear_43 : decode cX1_endYear 43 = .ok (.aload_n 1, 1) := by decide +kernel
theorem dX1_endYear_44 : decode cX1_endYear 44 = .ok (.iload_n 2, 1) := by decide +kernel
theorem dX1_endYear_45 : decode cX1_endYear 45 = .ok (.invokevirtual 72, 3) := by decide +kernel
theorem dX1_endYear_48 : decode cX1_endYear 48 = .ok (.istore 4, 2) := by decide +kernel
theorem dX1_endYear_50 : decode cX1_endYear 50 = .ok (.iconst 0, 1) := by decide +kernel
theorem dX1_endYear_51 : decode cX1_endYear 51 = .ok (.istore 5, 2) := by decide +kernel
theorem dX1_endYear_53 : decode cX1_endYear 53 = .ok (.iload 5, 2) := by decide +kernel
theorem dX1_endYear_55 : decode cX1_endYear 55 = .ok (.aload_n 0, 1) := by decide +kernel
theorem dX1_endYear_56 : decode cX1_endYear 56 = .ok (.getfield 15, 3) := by decide +kernel
theorem dX1_endYear_59 : decode cX1_endYear 59 = .ok (.getfield 76, 3) := by decide +kernel
theorem dX1_endYear_62 : decode cX1_endYear 62 = .ok (.if_icmp .ge 73, 3) := by decide +kernel
theorem dX1_endYear_65 : decode cX1_endYear 65 = .ok (.iload 4, 2) := by decide +kernel
theorem dX1_endYear_67 : decode cX1_endYear 67 = .ok (.iload 5, 2) := by decide +kernel
theorem dX1_endYear_69 : decode cX1_endYear 69 = .ok (.ishr, 1) := by decide +kernel
theorem dX1_endYear_70 : decode cX1_endYear 70 = .ok (.iconst 1, 1) := by decide +kernel
theorem dX1_endYear_71 : decode cX1_endYear 71 = .ok (.iand, 1) := by decide +kernel
theorem dX1_endYear_72 : decode cX1_endYear 72 = .ok (.iconst 1, 1) := by decide +kernel
theorem dX1_endYear_73 : decode cX1_endYear 73 = .ok (.if_icmp .ne 25, 3) := by decide +kernel
theorem dX1_endYear_76 : decode cX1_endYear 76 = .ok (.aload_n 1, 1) := by decide +kernel
theorem dX1_endYear_77 : decode cX1_endYear 77 = .ok (.iload 5, 2) := by decide +kernel
theorem dX1_endYear_79 : decode cX1_endYear 79 = .ok (.aload_n 1, 1) := by decide +kernel
theorem dX1_endYear_80 : decode cX1_endYear 80 = .ok (.iload 5, 2) := by decide +kernel
theorem dX1_endYear_82 : decode cX1_endYear 82 = .ok (.invokevirtual 79, 3) := by decide +kernel
theorem dX1_endYear_85 : decode cX1_endYear 85 = .ok (.iconst 1, 1) := by decide +kernel
theorem dX1_endYear_86 : decode cX1_endYear 86 = .ok (.iadd, 1) := by decide +kernel
theorem dX1_endYear_87 : decode cX1_endYear 87 = .ok (.bipush 9, 2) := by decide +kernel
theorem dX1_endYear_89 : decode cX1_endYear 89 = .ok (.invokestatic 35, 3) := by decide +kernel
theorem dX1_endYear_92 : decode cX1_endYear 92 = .ok (.invokevirtual 82, 3) := by decide +kernel
theorem dX1_endYear_95 : decode cX1_endYear 95 = .ok (.goto 34, 3) := by decide +kernel
theorem dX1_endYear_98 : decode cX1_endYear 98 = .ok (.aload_n 1, 1) := by decide +kernel
theorem dX1_endYear_99 : decode cX1_endYear 99 = .ok (.aload_n 0, 1) := by decide +kernel
theorem dX1_endYear_100 : decode cX1_endYear 100 = .ok (.getfield 15, 3) := by decide +kernel
theorem dX1_endYear_103 : decode cX1_endYear 103 = .ok (.iload 5, 2) := by decide +kernel
theorem dX1_endYear_105 : decode cX1_endYear 105 = .ok (.invokevirtual 86, 3) := by decide +kernel
theorem dX1_endYear_108 : decode cX1_endYear 108 = .ok (.invokevirtual 89, 3) := by decide +kernel
theorem dX1_endYear_111 : decode cX1_endYear 111 = .ok (.aload_n 1, 1) := by decide +kernel
theorem dX1_endYear_112 : decode cX1_endYear 112 = .ok (.iload 5, 2) := by decide +kernel
theorem dX1_endYear_114 : decode cX1_endYear 114 = .ok (.aload_n 1, 1) := by decide +kernel
theorem dX1_endYear_115 : decode cX1_endYear 115 = .ok (.iload 5, 2) := by decide +kernel
theorem dX1_endYear_117 : decode cX1_endYear 117 = .ok (.invokevirtual 79, 3) := by decide +kernel
theorem dX1_endYear_120 : decode cX1_endYear 120 = .ok (.iconst 1, 1) := by decide +kernel
theorem dX1_endYear_121 : decode cX1_endYear 121 = .ok (.isub, 1) := by decide +kernel
theorem dX1_endYear_122 : decode cX1_endYear 122 = .ok (.iconst 0, 1) := by decide +kernel
theorem dX1_endYear_123 : decode cX1_endYear 123 = .ok (.invokestatic 39, 3) := by decide +kernel
theorem dX1_endYear_126 : decode cX1_endYear 126 = .ok (.invokevirtual 82, 3) := by decide +kernel
theorem dX1_endYear_129 : decode cX1_endYear 129 = .ok (.iinc 5 1, 3) := by decide +kernel
theorem dX1_endYear_132 : decode cX1_endYear 132 = .ok (.goto (-79), 3) := by decide +kernel
theorem dX1_endYear_135 : decode cX1_endYear 135 = .ok (.aload_n 1, 1) := by decide +kernel
theorem dX1_endYear_136 : decode cX1_endYear 136 = .ok (.iload_n 2, 1) := by decide +kernel
theorem dX1_endYear_137 : decode cX1_endYear 137 = .ok (.iload_n 3, 1) := by decide +kernel
theorem dX1_endYear_138 : decode cX1_endYear 138 = .ok (.iload 4, 2) := by decide +kernel
theorem dX1_endYear_140 : decode cX1_endYear 140 = .ok (.invokevirtual 92, 3) := by decide +kernel
theorem dX1_endYear_143 : decode cX1_endYear 143 = .ok (.aload_n 1, 1) := by decide +kernel
theorem dX1_endYear_144 : decode cX1_endYear 144 = .ok (.invokevirtual 96, 3) := by decide +kernel
theorem dX1_endYear_147 : decode cX1_endYear 147 = .ok (.return_, 1) := by decide +kernel
theorem Fr.fl {S : Nat → Nat → Prop} {a b : Mm} (h : Fr S a b) {k : Nat} (hk : ∀ i, S k i) (lo hi : Nat) (v : Int) : Fr S a (mfl b k lo hi v) := ⟨fun k' i' h' => by
  rw [mfl_nk (fun e => h' (by rw [e]; exact hk i'))]
  exact h.1 k' i' h', h.2⟩
set_option maxRecDepth 100000 in
theorem gC_X1_19_76 {Q : Option AV → Mm → Prop} {K : KT} {cc : ByteArray} {nL d : Nat} {ret : Option FieldType} {pc n : Nat} {ls : List (Option AV)} {st : List AV} {μ : Mm} (hO : KOk PC Q K cc RX1 nL d ret) (hd : decode cc pc = .ok (.getfield 19, 3)) (hn : pc + 3 = n) (kk : AW K n ls (vR 73 :: st) μ) : AW K pc ls (vR 76 :: st) μ := aw_get (f := 1) hO hd hn okX1 (by decide) (lw_t1 217 rfl rfl) (by decide) rfl rfl rfl kk
set_option maxHeartbeats 4000000 in
set_option maxRecDepth 100000 in
theorem cJ_endYear {μ ν : Mm} {s : Nat} (h : JR μ s ν) (hL : LR (μ.1 (s + 1)) (ν.1 17)) (hy : ν.1 17 36 ≤ 1099) : CtV PC 5 yX1_endYear cX1_endYear 6 none [vR 76, vR s] μ (fun m => Fr (eS s) μ m ∧ SR (m.1 (s + 1)) (passF ν) ∧ LR (m.1 (s + 1)) (passF ν)) := by
  refine ct_intro [some (vR 76), some (vR s), none, none, none, none] RX1 (by decide) rfl XCo rfl (Nat.le_of_ble_eq_true rfl) (fun K hO => ?_)
  have hs := h.ob
  have hnp := h.B.np
  have hnt := h.B.nt
  have hr := h.B.now.rest
  have hpk := pickM_rng ν (ν.1 0 25).toNat
  refine aw_aload_n hO dX1_endYear_0 rfl rfl ?_
  refine gC_X1_19_76 hO dX1_endYear_1 rfl ?_
  refine aw_aload_n hO dX1_endYear_4 rfl rfl ?_
  refine aw_callVE (as := [vR s]) (st := []) hO dX1_endYear_5 rfl (lw_t3 221 rfl rfl) kX3_picked (T := TX3) rfl (by decide) rfl (cJ_picked h) (by decide) rfl rfl rfl (Nat.le_of_ble_eq_true rfl) (fun v1 μ2 hq3 => ?_)
  obtain ⟨e_v, hF1⟩ := hq3
  skip
  have hJ1 := h.fj hF1
  have hch : v1 = -1 ∨ (0 ≤ v1 ∧ v1 < ν.1 0 25) := by rw [e_v]; omega
  have rec_ : ∀ (z tm : Int) (m : Mm), z = brM ν → tm = tmM ν → ST μ2 s (trbF (crownF (ν.1 17) v1 z) tm (fun t => ν.1 16 (3 * t + 2)) (ν.1 0 26).toNat) m → AW K 135 [some (vR 76), some (vR s), some (vI v1), some (vI z), some (vI tm), none] [] m := by
    intro z tm m hz htm hm
    have hz01 : z = 0 ∨ z = 1 := by rw [hz]; unfold brM; split <;> simp
    obtain ⟨L, hL8, hL6, hL37, hLr⟩ := id hL
    have hrow : μ2.1 (s + 1) = μ.1 (s + 1) := hF1.fn (h.1.nj)
    have hm8 : m.1 (s + 1) 8 = (L : Int) := by rw [hm.2.2 8 (Or.inl rfl), hrow]; exact hL8
    have hLy : L ≤ 1099 := by have := h.S.yr; omega
    have htr5 := trbF_rng (M := (ν.1 0 26).toNat) (by omega) (f := (crownF (ν.1 17) v1 z)) (tm := tm) (gr := fun t => ν.1 16 (3 * t + 2)) (fun t ht => by rw [crownF_ne (by omega) (by omega) (by omega) (by omega)]; exact h.B.now.ask (by omega) (by omega)) (by rw [crownF_ne (by omega) (by omega) (by omega) (by omega)]; exact hr.2.2.2.1) (fun t ht => (h.B.tr (by omega)).2.2)
    have h33 : m.1 (s + 1) 3 = ν.1 17 33 := by rw [hm.2.1.sc.2.2.2.1, trbF_ne (by decide) _ (by omega), crownF_ne (by omega) (by omega) (by omega) (by omega)]
    refine aw_fg (ls' := [some (vR 76), some (vR s), some (vI v1), some (vI z), some (vI tm), none]) ⟨rfl, rfl, rfl, rfl, rfl, trivial⟩ ?_
    refine aw_aload_n hO dX1_endYear_135 rfl rfl ?_
    refine aw_iload_n hO dX1_endYear_136 rfl rfl ?_
    refine aw_iload_n hO dX1_endYear_137 rfl rfl ?_
    refine aw_iload hO dX1_endYear_138 rfl rfl ?_
    refine aw_callVV (as := [vI v1, vI z, vI tm]) (st := []) hO dX1_endYear_140 rfl (lw_t4 66 rfl rfl) kX7_record (T := TX7) rfl hs.1 hs.2.1 (ctC_7_record m hs (ch := v1) (z := z) (tm := tm) hz01 hm8 (by omega)) (by decide) rfl rfl rfl (Nat.le_of_ble_eq_true rfl) (fun μ5 hq6 => ?_)
    have e_μ5 := hq6
    refine aw_aload_n hO dX1_endYear_143 rfl rfl ?_
    refine aw_callVV (as := []) (st := []) hO dX1_endYear_144 rfl (lw_t4 70 rfl rfl) kX7_startYear (T := TX7) rfl hs.1 hs.2.1 (ctC_7_startYear μ5 hs (by rw [e_μ5, mst_ni (by decide), mst_ni (by omega), h33]; omega)) (by decide) rfl rfl rfl (Nat.le_of_ble_eq_true rfl) (fun μ8 hq9 => ?_)
    have e_μ8 := hq9
    refine aw_vret hO dX1_endYear_147 ?_
    have g3 : μ8.1 (s + 1) 3 = min 999 (m.1 (s + 1) 3 + 3) := by rw [e_μ8, mfl_out (by decide), mst_ni (by decide), mst_ni (by decide), mst_ni (by decide), mst_eq, e_μ5, mst_ni (by decide), mst_ni (by omega)]
    have g6 : μ8.1 (s + 1) 6 = m.1 (s + 1) 6 + 1 := by rw [e_μ8, mfl_out (by decide), mst_ni (by decide), mst_ni (by decide), mst_eq, e_μ5, mst_ni (by decide), mst_ni (by omega)]
    have g0 : μ8.1 (s + 1) 0 = 0 := by rw [e_μ8, mfl_out (by decide), mst_ni (by decide), mst_eq]
    have g1 : μ8.1 (s + 1) 1 = 0 := by rw [e_μ8, mfl_out (by decide), mst_eq]
    have gm : ∀ i, 9 ≤ i → i < 27 → μ8.1 (s + 1) i = 0 := fun i h1 h2 => by rw [e_μ8, mfl_in h1 h2]
    have g8 : μ8.1 (s + 1) 8 = (L : Int) + 1 := by rw [e_μ8, mfl_out (by decide), mst_ni (by decide), mst_ni (by decide), mst_ni (by decide), mst_ni (by decide), e_μ5, mst_eq]
    have gr : μ8.1 (s + 1) (38 + L % 60) = v1 + 1 + 8 * z + 16 * tm := by rw [e_μ8, mfl_out (by omega), mst_ni (by omega), mst_ni (by omega), mst_ni (by omega), mst_ni (by omega), e_μ5, mst_ni (by omega), mst_eq]
    have go : ∀ i, i ≠ 8 → i ≠ 0 → i ≠ 1 → i ≠ 3 → i ≠ 6 → ¬ (9 ≤ i ∧ i < 27) → i ≠ 38 + L % 60 → μ8.1 (s + 1) i = m.1 (s + 1) i := fun i h8 h0 h1 h3 h6 hm hl => by rw [e_μ8, mfl_out (by omega), mst_ni h1, mst_ni h0, mst_ni h6, mst_ni h3, e_μ5, mst_ni h8, mst_ni hl]
    have hFr : Fr (eS s) μ μ8 := by
      have q1 : Fr (eS s) μ m := (hF1.mono (fun _ _ e => Or.inl e)).tr (hm.1.mono (fun _ _ e => Or.inr e))
      have q2 : Fr (eS s) μ μ5 := by rw [e_μ5]; exact (q1.st (Or.inr rfl) _).st (Or.inr rfl) _
      rw [e_μ8]
      exact (((((q2.st (Or.inr rfl) _).st (Or.inr rfl) _).st (Or.inr rfl) _).st (Or.inr rfl) _).fl (fun i => Or.inr rfl) _ _ _)
    have hch2 : chM ν = v1 := e_v.symm
    have hlv : liveF ν = endF (trbF (crownF (ν.1 17) v1 z) tm (fun t => ν.1 16 (3 * t + 2)) (ν.1 0 26).toNat) := by unfold liveF; rw [hch2, ← hz, ← htm]
    have hSR : SR (μ8.1 (s + 1)) (liveF ν) := by rw [hlv]; exact hm.2.1.endY g3 g6 g0 g1 gm (fun i h1 h2 h3 h4 h5 h6 h7 => go i h2 h3 h4 h5 h6 h7 (by omega))
    refine ⟨rfl, hFr, hSR.gs (fun i hi => addLog_lt hi), ?_⟩
    unfold passF
    rw [hch2, ← hz, ← htm]
    refine LR.add (L := L) hL hL8 (by omega) (by omega) (by rw [htm]; exact metM_rng _ _ _ (by omega)) g8 (by rw [g6, hm.2.1.yr, trbF_ne (by decide) _ (by omega), crownF_ne (by omega) (by omega) (by omega) (by omega), ← h.S.yr, hL6]) gr (fun i h1 h2 h3 => ?_) (fun i hi => liveF_hi h.B hi)
    rw [go i (by omega) (by omega) (by omega) (by omega) (by omega) (by omega) h3, hm.2.2 i (Or.inr h1), hrow]
  have lp : ∀ (c t : Nat) (z tm : Int) (m : Mm), (t : Int) + c = ν.1 0 26 → z = brM ν → tm = tmM ν → ST μ2 s (trbF (crownF (ν.1 17) v1 z) tm (fun t => ν.1 16 (3 * t + 2)) t) m → AW K 53 [some (vR 76), some (vR s), some (vI v1), some (vI z), some (vI tm), some (vI ((t : Nat) : Int))] [] m := by
    intro c
    induction c with
    | zero =>
      intro t z tm m ht hz htm hm
      have hJ0 := ST.j0 h.1 hm hJ1.z
      refine aw_iload hO dX1_endYear_53 rfl rfl ?_
      refine aw_aload_n hO dX1_endYear_55 rfl rfl ?_
      refine gC_X1_15_76 hO dX1_endYear_56 rfl ?_
      refine gC_X1_76_25 hO dX1_endYear_59 rfl ?_
      refine aw_cg hJ0.T.t ?_
      refine aw_icmp_ge (tgt := 135) hO dX1_endYear_62 rfl rfl (inRn (by omega)) ⟨by omega, by omega⟩ (fun c62 => ?_) (fun c62 => ?_)
      · refine aw_fg (ls' := [some (vR 76), some (vR s), some (vI v1), some (vI z), some (vI tm), none]) ⟨rfl, rfl, rfl, rfl, rfl, trivial⟩ ?_
        exact rec_ z tm m hz htm (by rw [show (ν.1 0 26).toNat = t by omega]; exact hm)
      · exact absurd c62 (by omega)
    | succ c ih =>
      intro t z tm m ht hz htm hm
      have hJ0 := ST.j0 h.1 hm hJ1.z
      have htr := h.B.tr (t := t) (by omega)
      have htr5 := trbF_rng (M := (ν.1 0 26).toNat) (by omega) (f := (crownF (ν.1 17) v1 z)) (tm := tm) (gr := fun t => ν.1 16 (3 * t + 2)) (fun t ht => by rw [crownF_ne (by omega) (by omega) (by omega) (by omega)]; exact h.B.now.ask (by omega) (by omega)) (by rw [crownF_ne (by omega) (by omega) (by omega) (by omega)]; exact hr.2.2.2.1) (fun t ht => (h.B.tr (by omega)).2.2) t (by omega)
      have hq1 := htr5.1 t (by omega)
      have hq2 := htr5.2
      obtain ⟨G, hG⟩ : ∃ G, G = (trbF (crownF (ν.1 17) v1 z) tm (fun t => ν.1 16 (3 * t + 2)) t) := ⟨_, rfl⟩
      rw [← hG] at hq1 hq2 hm
      refine aw_iload hO dX1_endYear_53 rfl rfl ?_
      refine aw_aload_n hO dX1_endYear_55 rfl rfl ?_
      refine gC_X1_15_76 hO dX1_endYear_56 rfl ?_
      refine gC_X1_76_25 hO dX1_endYear_59 rfl ?_
      refine aw_cg hJ0.T.t ?_
      refine aw_icmp_ge (tgt := 135) hO dX1_endYear_62 rfl rfl (inRn (by omega)) ⟨by omega, by omega⟩ (fun c62 => ?_) (fun c62 => ?_)
      · exact absurd c62 (by omega)
      · refine aw_iload hO dX1_endYear_65 rfl rfl ?_
        refine aw_iload hO dX1_endYear_67 rfl rfl ?_
        refine aw_ishr hO dX1_endYear_69 rfl ?_
        refine aw_iconst hO dX1_endYear_70 rfl ?_
        refine aw_iand hO dX1_endYear_71 rfl ?_
        refine aw_iconst hO dX1_endYear_72 rfl ?_
        refine aw_icmp_ne (tgt := 98) hO dX1_endYear_73 rfl rfl (bAnd_R _ _) (inRlit _) (fun c73 => ?_) (fun c73 => ?_)
        · have c73b : ¬ hasB tm t = true := fun e => c73 (of_decide_eq_true e)
          refine aw_aload_n hO dX1_endYear_98 rfl rfl ?_
          refine aw_aload_n hO dX1_endYear_99 rfl rfl ?_
          refine gC_X1_15_76 hO dX1_endYear_100 rfl ?_
          refine aw_iload hO dX1_endYear_103 rfl rfl ?_
          refine aw_callVI (as := [vI ((t : Nat) : Int)]) (st := [vR s]) hO dX1_endYear_105 rfl (lw_t4 60 rfl rfl) kX9_gravity (T := TX9) rfl (by decide) rfl (cJ_gravity hJ0 (t := t) (by omega)) (by decide) rfl rfl rfl (Nat.le_of_ble_eq_true rfl) ?_
          refine aw_callVV (as := [vI (ν.1 16 (3 * t + 2))]) (st := []) hO dX1_endYear_108 rfl (lw_t4 61 rfl rfl) kX7_harm (T := TX7) rfl hs.1 hs.2.1 (ctC_7_harm m hs (v := (ν.1 16 (3 * t + 2))) (by rw [hm.2.1.sc.2.2.1]; exact hq2) (by omega) (by omega)) (by decide) rfl rfl rfl (Nat.le_of_ble_eq_true rfl) (fun μ11 hq12 => ?_)
          have e_μ11 := hq12
          have hS_μ11 : ST μ2 s (fu G 32 (min 9999 (G 32 + ν.1 16 (3 * t + 2)))) μ11 := by rw [e_μ11, hm.2.1.sc.2.2.1]; exact hm.st (by decide) (by decide) rfl _
          refine aw_aload_n hO dX1_endYear_111 rfl rfl ?_
          refine aw_iload hO dX1_endYear_112 rfl rfl ?_
          refine aw_aload_n hO dX1_endYear_114 rfl rfl ?_
          refine aw_iload hO dX1_endYear_115 rfl rfl ?_
          refine aw_callVI (as := [vI ((t : Nat) : Int)]) (st := [vI ((t : Nat) : Int), vR s]) hO dX1_endYear_117 rfl (lw_t4 55 rfl rfl) kX7_asks (T := TX7) rfl hs.1 hs.2.1 (cJ_asks hs hS_μ11.2.1 (p := t) (by omega)) (by decide) rfl rfl rfl (Nat.le_of_ble_eq_true rfl) ?_
          refine aw_iconst hO dX1_endYear_120 rfl ?_
          refine aw_isub hO dX1_endYear_121 rfl ?_
          refine aw_iconst hO dX1_endYear_122 rfl ?_
          refine aw_mmax hO dX1_endYear_123 rfl (lw_t3 153 rfl rfl) mth_max (by decide) rfl (Nat.le_of_ble_eq_true rfl) ⟨by rw [fu_ne (by omega)]; omega, by rw [fu_ne (by omega)]; omega⟩ (inRlit _) ?_
          refine aw_callVV (as := [vI ((t : Nat) : Int), vI (max (((fu G 32 (min 9999 (G 32 + ν.1 16 (3 * t + 2)))) (24 + t)) - 1) 0)]) (st := []) hO dX1_endYear_126 rfl (lw_t4 56 rfl rfl) kX7_setAsks (T := TX7) rfl hs.1 hs.2.1 (ctC_7_setAsks μ11 hs (p := t) (v := (max (((fu G 32 (min 9999 (G 32 + ν.1 16 (3 * t + 2)))) (24 + t)) - 1) 0)) (by omega)) (by decide) rfl rfl rfl (Nat.le_of_ble_eq_true rfl) (fun μ14 hq15 => ?_)
          have e_μ14 := hq15
          refine aw_iinc (ls' := [some (vR 76), some (vR s), some (vI v1), some (vI z), some (vI tm), some (vI (((t : Nat) : Int) + 1))]) hO dX1_endYear_129 rfl rfl rfl rfl ?_
          refine aw_lsq (ls' := [some (vR 76), some (vR s), some (vI v1), some (vI z), some (vI tm), some (vI (((t + 1) : Nat) : Int))]) rfl ?_
          refine aw_goto (tgt := 53) hO dX1_endYear_132 rfl ?_
          refine aw_lsq (ls' := [some (vR 76), some (vR s), some (vI v1), some (vI z), some (vI tm), some (vI (((t + 1) : Nat) : Int))]) rfl ?_
          refine ih (t + 1) z tm μ14 (by omega) hz htm ?_
          rw [trbF, ← hG, if_neg c73b, if_neg c73b, ← fu_comm (by omega), show max 0 (min 9 (G (24 + t) + -1)) = max (G (24 + t) - 1) 0 by omega, e_μ14, fu_ne (i := 32) (by omega)]
          exact hS_μ11.st (by omega) (by omega) ri_ask _
        · have c73b : hasB tm t = true := decide_eq_true c73
          refine aw_aload_n hO dX1_endYear_76 rfl rfl ?_
          refine aw_iload hO dX1_endYear_77 rfl rfl ?_
          refine aw_aload_n hO dX1_endYear_79 rfl rfl ?_
          refine aw_iload hO dX1_endYear_80 rfl rfl ?_
          refine aw_callVI (as := [vI ((t : Nat) : Int)]) (st := [vI ((t : Nat) : Int), vR s]) hO dX1_endYear_82 rfl (lw_t4 55 rfl rfl) kX7_asks (T := TX7) rfl hs.1 hs.2.1 (cJ_asks hs hm.2.1 (p := t) (by omega)) (by decide) rfl rfl rfl (Nat.le_of_ble_eq_true rfl) ?_
          refine aw_iconst hO dX1_endYear_85 rfl ?_
          refine aw_iadd hO dX1_endYear_86 rfl ?_
          refine aw_bipush hO dX1_endYear_87 rfl (by decide) (by decide) ?_
          refine aw_mmin hO dX1_endYear_89 rfl (lw_t3 152 rfl rfl) mth_min (by decide) rfl (Nat.le_of_ble_eq_true rfl) ⟨by omega, by omega⟩ (inRlit _) ?_
          refine aw_callVV (as := [vI ((t : Nat) : Int), vI (min ((G (24 + t)) + 1) 9)]) (st := []) hO dX1_endYear_92 rfl (lw_t4 56 rfl rfl) kX7_setAsks (T := TX7) rfl hs.1 hs.2.1 (ctC_7_setAsks m hs (p := t) (v := (min ((G (24 + t)) + 1) 9)) (by omega)) (by decide) rfl rfl rfl (Nat.le_of_ble_eq_true rfl) (fun μ17 hq18 => ?_)
          have e_μ17 := hq18
          refine aw_goto (tgt := 129) hO dX1_endYear_95 rfl ?_
          refine aw_iinc (ls' := [some (vR 76), some (vR s), some (vI v1), some (vI z), some (vI tm), some (vI (((t : Nat) : Int) + 1))]) hO dX1_endYear_129 rfl rfl rfl rfl ?_
          refine aw_lsq (ls' := [some (vR 76), some (vR s), some (vI v1), some (vI z), some (vI tm), some (vI (((t + 1) : Nat) : Int))]) rfl ?_
          refine aw_goto (tgt := 53) hO dX1_endYear_132 rfl ?_
          refine aw_lsq (ls' := [some (vR 76), some (vR s), some (vI v1), some (vI z), some (vI tm), some (vI (((t + 1) : Nat) : Int))]) rfl ?_
          refine ih (t + 1) z tm μ17 (by omega) hz htm ?_
          rw [trbF, ← hG, if_pos c73b, if_pos c73b, fu_self (i := 32) (by rw [fu_ne (by omega)]), show max 0 (min 9 (G (24 + t) + 1)) = min (G (24 + t) + 1) 9 by omega, e_μ17]
          exact hm.st (by omega) (by omega) ri_ask _
  have j42 : ∀ (z : Int) (m : Mm), z = brM ν → ST μ2 s (crownF (ν.1 17) v1 z) m → AW K 42 [some (vR 76), some (vR s), some (vI v1), some (vI z), none, none] [] m := by
    intro z m hz hm
    have hJ0 := ST.j0 h.1 hm hJ1.z
    refine aw_aload_n hO dX1_endYear_42 rfl rfl ?_
    refine aw_aload_n hO dX1_endYear_43 rfl rfl ?_
    refine aw_iload_n hO dX1_endYear_44 rfl rfl ?_
    refine aw_callVI (as := [vR s, vI v1]) (st := []) hO dX1_endYear_45 rfl (lw_t4 49 rfl rfl) kX1_metBy (T := TX1) rfl (by decide) rfl (cJ_metBy hJ0 hs hm.2.1 (fun t ht => crownF_ne (by omega) (by omega) (by omega) (by omega)) hch) (by decide) rfl rfl rfl (Nat.le_of_ble_eq_true rfl) ?_
    refine aw_nm (fun tm e_tm => ?_)
    refine aw_istore (ls' := [some (vR 76), some (vR s), some (vI v1), some (vI z), some (vI tm), none]) hO dX1_endYear_48 rfl (Nat.le_of_ble_eq_true rfl) rfl rfl ?_
    refine aw_iconst hO dX1_endYear_50 rfl ?_
    refine aw_istore (ls' := [some (vR 76), some (vR s), some (vI v1), some (vI z), some (vI tm), some (vI 0)]) hO dX1_endYear_51 rfl (Nat.le_of_ble_eq_true rfl) rfl rfl ?_
    refine aw_lsq (ls' := [some (vR 76), some (vR s), some (vI v1), some (vI z), some (vI tm), some (vI ((0 : Nat) : Int))]) rfl ?_
    exact lp (ν.1 0 26).toNat 0 z tm m (by omega) hz (by rw [e_tm]; unfold tmM chM; rw [e_v]) hm
  have j30 : ∀ z : Int, z = brM ν → AW K 30 [some (vR 76), some (vR s), some (vI v1), none, none, none] [vI z] μ2 := by
    intro z hz
    have hz01 : z = 0 ∨ z = 1 := by rw [hz]; unfold brM; split <;> simp
    refine aw_istore_n (ls' := [some (vR 76), some (vR s), some (vI v1), some (vI z), none, none]) hO dX1_endYear_30 rfl (Nat.le_of_ble_eq_true rfl) rfl rfl ?_
    refine aw_iload_n hO dX1_endYear_31 rfl rfl ?_
    refine aw_iconst hO dX1_endYear_32 rfl ?_
    refine aw_icmp_eq (tgt := 42) hO dX1_endYear_33 rfl rfl ⟨by omega, by omega⟩ (inRlit _) (fun c33 => ?_) (fun c33 => ?_)
    · exact j42 z μ2 hz (by rw [show crownF (ν.1 17) v1 z = ν.1 17 by unfold crownF; rw [if_pos c33]]; exact ST.rf hJ1.S)
    · refine aw_aload_n hO dX1_endYear_36 rfl rfl ?_
      refine aw_iload_n hO dX1_endYear_37 rfl rfl ?_
      refine aw_iload_n hO dX1_endYear_38 rfl rfl ?_
      obtain ⟨p, hp⟩ : ∃ p : Nat, v1 = (p : Int) := ⟨v1.toNat, by omega⟩
      refine aw_stq (st' := [vI z, vI ((p : Nat) : Int), vR s]) (by rw [hp]) ?_
      refine aw_callVV (as := [vI ((p : Nat) : Int), vI z]) (st := []) hO dX1_endYear_39 rfl (lw_t4 45 rfl rfl) kX7_crown (T := TX7) rfl hs.1 hs.2.1 (ctC_7_crown μ2 hs (p := p) (z := z) (by omega) hz01 (by rw [hJ1.S.cha (by omega)]; exact h.B.now.cha (by omega) (by omega))) (by decide) rfl rfl rfl (Nat.le_of_ble_eq_true rfl) (fun μ20 hq21 => ?_)
      have e_μ20 := hq21
      refine aw_lsq (ls' := [some (vR 76), some (vR s), some (vI v1), some (vI z), none, none]) (by rw [hp]) ?_
      exact j42 z μ20 hz (by
        rw [show crownF (ν.1 17) v1 z = fu (fu (ν.1 17) (18 + p) (min 99 (ν.1 17 (18 + p) + 1))) (if z = 1 then 34 else 35) (ν.1 17 (if z = 1 then 34 else 35) + 1) by unfold crownF; rw [if_neg (by omega), hp, Int.toNat_natCast]]
        have hx : μ2.1 (s + 1) (if z = 1 then 4 else 5) = ν.1 17 (if z = 1 then 34 else 35) := by split; exact hJ1.S.sc.2.2.2.2.1; exact hJ1.S.sc.2.2.2.2.2.1
        rw [e_μ20, hx, hJ1.S.cha (by omega)]
        exact ((ST.rf hJ1.S).st (by omega) (by omega) (ri_cha (by omega)) _).st (by split <;> decide) (by split <;> decide) (by split <;> rfl) _)
  refine aw_istore_n (ls' := [some (vR 76), some (vR s), some (vI v1), none, none, none]) hO dX1_endYear_8 rfl (Nat.le_of_ble_eq_true rfl) rfl rfl ?_
  refine aw_iload_n hO dX1_endYear_9 rfl rfl ?_
  refine aw_iconst hO dX1_endYear_10 rfl ?_
  refine aw_icmp_eq (tgt := 29) hO dX1_endYear_11 rfl rfl ⟨by omega, by omega⟩ (inRlit _) (fun c11 => ?_) (fun c11 => ?_)
  · refine aw_iconst hO dX1_endYear_29 rfl ?_
    exact j30 _ (show (0 : Int) = brM ν by unfold brM chM; rw [← e_v, if_neg (fun q => q.1 c11)])
  · refine aw_aload_n hO dX1_endYear_14 rfl rfl ?_
    refine gC_X1_19_76 hO dX1_endYear_15 rfl ?_
    refine aw_aload_n hO dX1_endYear_18 rfl rfl ?_
    refine aw_callVI (as := [vR s]) (st := []) hO dX1_endYear_19 rfl (lw_t4 44 rfl rfl) kX3_candidates (T := TX3) rfl (by decide) rfl (cJ_candidates hJ1) (by decide) rfl rfl rfl (Nat.le_of_ble_eq_true rfl) ?_
    refine aw_if_ne (tgt := 29) hO dX1_endYear_22 rfl rfl (bAnd_R _ _) (fun c22 => ?_) (fun c22 => ?_)
    · refine aw_iconst hO dX1_endYear_29 rfl ?_
      exact j30 _ (show (0 : Int) = brM ν by unfold brM chM; rw [← e_v, if_neg (fun q => c22 ((canT_zero h.B).mpr q.2))])
    · refine aw_iconst hO dX1_endYear_25 rfl ?_
      refine aw_goto (tgt := 30) hO dX1_endYear_26 rfl ?_
      exact j30 _ (show (1 : Int) = brM ν by unfold brM chM; rw [← e_v, if_pos ⟨c11, (canT_zero h.B).mp c22⟩])
