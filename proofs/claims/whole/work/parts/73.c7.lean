/-! ## a year by draws -/
def EY (s : Nat) (μ m : Mm) : Prop := (∀ k i, ¬ eS s k i → m.1 k i = μ.1 k i) ∧ m.2.2 = μ.2.2
theorem EY.rf {s : Nat} {μ : Mm} : EY s μ μ := ⟨fun _ _ _ => rfl, rfl⟩
theorem EY.tr {s : Nat} {a b c : Mm} (h : EY s a b) (h2 : EY s b c) : EY s a c := ⟨fun k i hk => (h2.1 k i hk).trans (h.1 k i hk), h2.2.trans h.2⟩
theorem EY.fr {s : Nat} {a b : Mm} (h : Fr (eS s) a b) : EY s a b := ⟨h.1, congrArg Prod.snd h.2⟩
theorem EY.lg {s : Nat} {a b : Mm} {x : Int} (h : EY s a b) : EY s a (mlong b x) := h
theorem ST.ey {μ m : Mm} {s : Nat} {G : Nat → Int} (h : ST μ s G m) : EY s μ m := EY.fr (h.1.mono (fun _ _ e => Or.inr e))
theorem JR.to {μ m ν : Mm} {s : Nat} {G : Nat → Int} (h : JR μ s ν) (hm : ST μ s G m) (hG : NowOK G) : JR m s (wN ν G) := by
  have hb := h.1
  unfold Sb at hb
  refine ⟨h.1, MG_N h.G hG, ?_, ?_, hm.2.1⟩
  · exact h.T.fr (hm.1.fn (fun i => by omega)) (hm.1.fn (fun i => by omega))
  · exact h.H.fr hm.1 (fun j i hj => ⟨by omega, by omega⟩)
theorem wN_wN {ν : Mm} {F G : Nat → Int} : wN (wN ν F) G = wN ν G := mrow_mrow
theorem wN_self (ν : Mm) : wN ν (ν.1 17) = ν := mrow_self ν 17
theorem wN_17 {ν : Mm} {F : Nat → Int} : (wN ν F).1 17 = F := mrow_at
theorem wN_k {ν : Mm} {F : Nat → Int} {k : Nat} (h : k ≠ 17) : (wN ν F).1 k = ν.1 k := mrow_nk h
def YS (μ : Mm) (s : Nat) (ν0 : Mm) (F : (Nat → Int) × Int) (m : Mm) : Prop := JR m s (wN ν0 F.1) ∧ m.2.1 = F.2 ∧ EY s μ m ∧ ∀ i, i = 8 ∨ 38 ≤ i → m.1 (s + 1) i = μ.1 (s + 1) i
theorem YS.lg {μ m ν0 : Mm} {s : Nat} {F : (Nat → Int) × Int} {x : Int} (h : YS μ s ν0 F m) : YS μ s ν0 (F.1, x) (mlong m x) := ⟨h.1.lg, rfl, h.2.2.1.lg, h.2.2.2⟩
theorem YS.st {μ m m' ν0 : Mm} {s : Nat} {F : (Nat → Int) × Int} {G : Nat → Int} (h : YS μ s ν0 F m) (hm : ST m s G m') (hG : NowOK G) : YS μ s ν0 (G, F.2) m' := by
  refine ⟨?_, ?_, h.2.2.1.tr hm.ey, fun i hi => (hm.2.2 i hi).trans (h.2.2.2 i hi)⟩
  · have := h.1.to hm hG
    rwa [wN_wN] at this
  · rw [hm.1.2]; exact h.2.1
theorem dX1_liveYear_0 : decode cX1_liveYear 0 = .ok (.iconst 0, 1) := by decide +kernel
theorem dX1_liveYear_1 : decode cX1_liveYear 1 = .ok (.istore_n 3, 1) := by decide +kernel
theorem dX1_liveYear_2 : decode cX1_liveYear 2 = .ok (.iload_n 3, 1) := by decide +kernel
theorem dX1_liveYear_3 : decode cX1_liveYear 3 = .ok (.iconst 3, 1) := by decide +kernel
theorem dX1_liveYear_4 : decode cX1_liveYear 4 = .ok (.if_icmp .ge 35, 3) := by decide +kernel
theorem dX1_liveYear_7 : decode cX1_liveYear 7 = .ok (.aload_n 0, 1) := by decide +kernel
theorem dX1_liveYear_8 : decode cX1_liveYear 8 = .ok (.bipush 21, 2) := by decide +kernel
theorem dX1_liveYear_10 : decode cX1_liveYear 10 = .ok (.invokevirtual 105, 3) := by decide +kernel
theorem dX1_liveYear_13 : decode cX1_liveYear 13 = .ok (.istore 4, 2) := by decide +kernel
theorem dX1_liveYear_15 : decode cX1_liveYear 15 = .ok (.aload_n 0, 1) := by decide +kernel
theorem dX1_liveYear_16 : decode cX1_liveYear 16 = .ok (.aload_n 1, 1) := by decide +kernel
theorem dX1_liveYear_17 : decode cX1_liveYear 17 = .ok (.iload 4, 2) := by decide +kernel
theorem dX1_liveYear_19 : decode cX1_liveYear 19 = .ok (.invokevirtual 108, 3) := by decide +kernel
theorem dX1_liveYear_22 : decode cX1_liveYear 22 = .ok (.ifCond .eq 11, 3) := by decide +kernel
theorem dX1_liveYear_25 : decode cX1_liveYear 25 = .ok (.aload_n 0, 1) := by decide +kernel
theorem dX1_liveYear_26 : decode cX1_liveYear 26 = .ok (.aload_n 1, 1) := by decide +kernel
theorem dX1_liveYear_27 : decode cX1_liveYear 27 = .ok (.iload 4, 2) := by decide +kernel
theorem dX1_liveYear_29 : decode cX1_liveYear 29 = .ok (.invokevirtual 112, 3) := by decide +kernel
theorem dX1_liveYear_32 : decode cX1_liveYear 32 = .ok (.pop, 1) := by decide +kernel
theorem dX1_liveYear_33 : decode cX1_liveYear 33 = .ok (.iinc 3 1, 3) := by decide +kernel
theorem dX1_liveYear_36 : decode cX1_liveYear 36 = .ok (.goto (-34), 3) := by decide +kernel
theorem dX1_liveYear_39 : decode cX1_liveYear 39 = .ok (.aload_n 0, 1) := by decide +kernel
theorem dX1_liveYear_40 : decode cX1_liveYear 40 = .ok (.aload_n 0, 1) := by decide +kernel
theorem dX1_liveYear_41 : decode cX1_liveYear 41 = .ok (.getfield 15, 3) := by decide +kernel
theorem dX1_liveYear_44 : decode cX1_liveYear 44 = .ok (.getfield 42, 3) := by decide +kernel
theorem dX1_liveYear_47 : decode cX1_liveYear 47 = .ok (.invokevirtual 105, 3) := by decide +kernel
theorem dX1_liveYear_50 : decode cX1_liveYear 50 = .ok (.istore_n 3, 1) := by decide +kernel
theorem dX1_liveYear_51 : decode cX1_liveYear 51 = .ok (.aload_n 0, 1) := by decide +kernel
theorem dX1_liveYear_52 : decode cX1_liveYear 52 = .ok (.iconst 2, 1) := by decide +kernel
theorem dX1_liveYear_53 : decode cX1_liveYear 53 = .ok (.invokevirtual 105, 3) := by decide +kernel
theorem dX1_liveYear_56 : decode cX1_liveYear 56 = .ok (.istore 4, 2) := by decide +kernel
theorem dX1_liveYear_58 : decode cX1_liveYear 58 = .ok (.aload_n 1, 1) := by decide +kernel
theorem dX1_liveYear_59 : decode cX1_liveYear 59 = .ok (.iload_n 3, 1) := by decide +kernel
theorem dX1_liveYear_60 : decode cX1_liveYear 60 = .ok (.iload 4, 2) := by decide +kernel
theorem dX1_liveYear_62 : decode cX1_liveYear 62 = .ok (.invokevirtual 115, 3) := by decide +kernel
theorem dX1_liveYear_65 : decode cX1_liveYear 65 = .ok (.ifCond .eq 19, 3) := by decide +kernel
theorem dX1_liveYear_68 : decode cX1_liveYear 68 = .ok (.aload_n 1, 1) := by decide +kernel
theorem dX1_liveYear_69 : decode cX1_liveYear 69 = .ok (.iload_n 3, 1) := by decide +kernel
theorem dX1_liveYear_70 : decode cX1_liveYear 70 = .ok (.iload 4, 2) := by decide +kernel
theorem dX1_liveYear_72 : decode cX1_liveYear 72 = .ok (.aload_n 1, 1) := by decide +kernel
theorem dX1_liveYear_73 : decode cX1_liveYear 73 = .ok (.iload_n 3, 1) := by decide +kernel
theorem dX1_liveYear_74 : decode cX1_liveYear 74 = .ok (.iload 4, 2) := by decide +kernel
theorem dX1_liveYear_76 : decode cX1_liveYear 76 = .ok (.invokevirtual 119, 3) := by decide +kernel
theorem dX1_liveYear_79 : decode cX1_liveYear 79 = .ok (.iconst 1, 1) := by decide +kernel
theorem dX1_liveYear_80 : decode cX1_liveYear 80 = .ok (.iadd, 1) := by decide +kernel
theorem dX1_liveYear_81 : decode cX1_liveYear 81 = .ok (.invokevirtual 122, 3) := by decide +kernel
theorem dX1_liveYear_84 : decode cX1_liveYear 84 = .ok (.aload_n 0, 1) := by decide +kernel
theorem dX1_liveYear_85 : decode cX1_liveYear 85 = .ok (.bipush 10, 2) := by decide +kernel
theorem dX1_liveYear_87 : decode cX1_liveYear 87 = .ok (.invokevirtual 105, 3) := by decide +kernel
theorem dX1_liveYear_90 : decode cX1_liveYear 90 = .ok (.iload_n 2, 1) := by decide +kernel
theorem dX1_liveYear_91 : decode cX1_liveYear 91 = .ok (.if_icmp .ge 18, 3) := by decide +kernel
theorem dX1_liveYear_94 : decode cX1_liveYear 94 = .ok (.aload_n 1, 1) := by decide +kernel
theorem dX1_liveYear_95 : decode cX1_liveYear 95 = .ok (.aload_n 0, 1) := by decide +kernel
theorem dX1_liveYear_96 : decode cX1_liveYear 96 = .ok (.aload_n 0, 1) := by decide +kernel
theorem dX1_liveYear_97 : decode cX1_liveYear 97 = .ok (.getfield 15, 3) := by decide +kernel
theorem dX1_liveYear_100 : decode cX1_liveYear 100 = .ok (.getfield 42, 3) := by decide +kernel
theorem dX1_liveYear_103 : decode cX1_liveYear 103 = .ok (.invokevirtual 105, 3) := by decide +kernel
theorem dX1_liveYear_106 : decode cX1_liveYear 106 = .ok (.invokevirtual 126, 3) := by decide +kernel
theorem dX1_liveYear_109 : decode cX1_liveYear 109 = .ok (.aload_n 0, 1) := by decide +kernel
theorem dX1_liveYear_110 : decode cX1_liveYear 110 = .ok (.aload_n 1, 1) := by decide +kernel
theorem dX1_liveYear_111 : decode cX1_liveYear 111 = .ok (.invokevirtual 129, 3) := by decide +kernel
theorem dX1_liveYear_114 : decode cX1_liveYear 114 = .ok (.return_, 1) := by decide +kernel
set_option maxHeartbeats 4000000 in
set_option maxRecDepth 100000 in
theorem cJ_liveYear {μ ν0 : Mm} {s : Nat} (h : JR μ s ν0) {f : Int} (hf : ν0.1 0 30 = f) (hf1 : 0 ≤ f) (hf2 : f ≤ 9) (hp0 : ν0.1 0 25 ≠ 0) (hL : LR (μ.1 (s + 1)) (ν0.1 17)) (hy : ν0.1 17 36 ≤ 1099) : CtV PC 6 yX1_liveYear cX1_liveYear 5 none [vR 76, vR s, vI f] μ (fun m => EY s μ m ∧ SR (m.1 (s + 1)) (passF (wN ν0 (drawF ν0 (ν0.1 17, μ.2.1)).1)) ∧ LR (m.1 (s + 1)) (passF (wN ν0 (drawF ν0 (ν0.1 17, μ.2.1)).1)) ∧ m.2.1 = (drawF ν0 (ν0.1 17, μ.2.1)).2) := by
  refine ct_intro [some (vR 76), some (vR s), some (vI f), none, none] RX1 (by decide) rfl XCo rfl (Nat.le_of_ble_eq_true rfl) (fun K hO => ?_)
  have hs := h.ob
  have hnp := h.B.np
  have j109 : ∀ m, YS μ s ν0 (drawF ν0 (ν0.1 17, μ.2.1)) m → AW K 109 [some (vR 76), some (vR s), some (vI f), none, none] [] m := by
    intro m hm
    obtain ⟨ν, hν⟩ : ∃ ν, ν = wN ν0 (drawF ν0 (ν0.1 17, μ.2.1)).1 := ⟨_, rfl⟩
    have h17 : ν.1 17 = (drawF ν0 (ν0.1 17, μ.2.1)).1 := by rw [hν, wN_17]
    have hJ := hm.1
    rw [← hν] at hJ
    have h36 : ν.1 17 36 = ν0.1 17 36 := by rw [h17, drawF_36 h.B hp0 (by decide)]
    have hLm : LR (m.1 (s + 1)) (ν.1 17) := by
      refine hL.gs (fun i hi => ?_) (fun i hi => by rw [h17, drawF_36 h.B hp0 (by omega)])
      by_cases e : i = 6
      · rw [e, hJ.S.yr, h36, h.S.yr]
      · exact hm.2.2.2 i (by omega)
    refine aw_aload_n hO dX1_liveYear_109 rfl rfl ?_
    refine aw_aload_n hO dX1_liveYear_110 rfl rfl ?_
    refine aw_callVV (as := [vR s]) (st := []) hO dX1_liveYear_111 rfl (lw_t4 104 rfl rfl) kX1_endYear (T := TX1) rfl (by decide) rfl (cJ_endYear hJ hLm (by omega)) (by decide) rfl rfl rfl (Nat.le_of_ble_eq_true rfl) (fun μ2 hq3 => ?_)
    obtain ⟨hF9, hS9, hL9⟩ := hq3
    refine aw_vret hO dX1_liveYear_114 ?_
    exact ⟨rfl, hm.2.2.1.tr (EY.fr hF9), by rw [← hν]; exact hS9, by rw [← hν]; exact hL9, by rw [hF9.2]; exact hm.2.1⟩
  have j84 : ∀ m, YS μ s ν0 (feiF ν0 (walkK ν0 (ν0.1 17, μ.2.1) 3)) m → AW K 84 [some (vR 76), some (vR s), some (vI f), none, none] [] m := by
    intro m hY_m
    have hdf : drawF ν0 (ν0.1 17, μ.2.1) = fatF ν0 (feiF ν0 (walkK ν0 (ν0.1 17, μ.2.1) 3)) := rfl
    have hGk := feiF_ok h.B hp0 (walkK_ok h.B (s := (ν0.1 17, μ.2.1)) h.B.now 3)
    rw [hdf] at j109
    generalize feiF ν0 (walkK ν0 (ν0.1 17, μ.2.1) 3) = F at hY_m hGk j109
    obtain ⟨ν, hν⟩ : ∃ ν, ν = wN ν0 F.1 := ⟨_, rfl⟩
    have h17 : ν.1 17 = F.1 := by rw [hν, wN_17]
    have h25 : ν.1 0 25 = ν0.1 0 25 := by rw [hν, wN_k (by decide)]
    have hJ_m := hY_m.1
    rw [← hν] at hJ_m
    refine aw_aload_n hO dX1_liveYear_84 rfl rfl ?_
    refine aw_bipush hO dX1_liveYear_85 rfl (by decide) (by decide) ?_
    refine aw_callVE (as := [vI 10]) (st := []) hO dX1_liveYear_87 rfl (lw_t4 92 rfl rfl) kX1_draw (T := TX1) rfl (by decide) rfl (cJ_draw m (j := 10) (by omega) (by omega)) (by decide) rfl rfl rfl (Nat.le_of_ble_eq_true rfl) (fun v4 μ5 hq6 => ?_)
    obtain ⟨e_a, e_μ5⟩ := hq6
    have hr_a := drw_rng (x := seed1 m.2.1) (j := 10) (by omega)
    rw [← e_a] at hr_a
    have hY_μ5 := hY_m.lg (x := seed1 m.2.1)
    rw [← e_μ5] at hY_μ5
    have hx_μ5 : μ5.2.1 = seed1 m.2.1 := by rw [e_μ5]; rfl
    rw [← hx_μ5] at hY_μ5
    try dsimp only at hY_μ5
    have hJ_μ5 : JR μ5 s ν := by rw [e_μ5]; exact hJ_m.lg
    refine aw_iload_n hO dX1_liveYear_90 rfl rfl ?_
    refine aw_icmp_ge (tgt := 109) hO dX1_liveYear_91 rfl rfl ⟨by omega, by omega⟩ ⟨by omega, by omega⟩ (fun c91 => ?_) (fun c91 => ?_)
    · refine aw_fg (ls' := [some (vR 76), some (vR s), some (vI f), none, none]) ⟨rfl, rfl, rfl, trivial⟩ ?_
      exact j109 μ5 (by
        have e2 : fatF ν0 F = (F.1, seed1 F.2) := by unfold fatF; rw [if_neg (by rw [← hY_m.2.1, ← e_a]; omega)]
        rw [e2, ← hY_m.2.1, ← hx_μ5]; exact hY_μ5)
    · refine aw_aload_n hO dX1_liveYear_94 rfl rfl ?_
      refine aw_aload_n hO dX1_liveYear_95 rfl rfl ?_
      refine aw_aload_n hO dX1_liveYear_96 rfl rfl ?_
      refine gC_X1_15_76 hO dX1_liveYear_97 rfl ?_
      refine gC_X1_42_25 hO dX1_liveYear_100 rfl ?_
      refine aw_cg hJ_μ5.z.T.n ?_
      refine aw_callVE (as := [vI (ν.1 0 25)]) (st := [vR s]) hO dX1_liveYear_103 rfl (lw_t4 92 rfl rfl) kX1_draw (T := TX1) rfl (by decide) rfl (cJ_draw μ5 (j := (ν.1 0 25)) (by omega) (by omega)) (by decide) rfl rfl rfl (Nat.le_of_ble_eq_true rfl) (fun v7 μ8 hq9 => ?_)
      obtain ⟨e_b, e_μ8⟩ := hq9
      have hr_b := drw_rng (x := seed1 μ5.2.1) (j := (ν.1 0 25)) (by omega)
      rw [← e_b] at hr_b
      have hY_μ8 := hY_μ5.lg (x := seed1 μ5.2.1)
      rw [← e_μ8] at hY_μ8
      have hx_μ8 : μ8.2.1 = seed1 μ5.2.1 := by rw [e_μ8]; rfl
      rw [← hx_μ8] at hY_μ8
      try dsimp only at hY_μ8
      have hJ_μ8 : JR μ8 s ν := by rw [e_μ8]; exact hJ_μ5.lg
      obtain ⟨p, hn_p⟩ : ∃ x : Nat, v7 = (x : Int) := ⟨v7.toNat, by omega⟩
      subst hn_p
      refine aw_callVV (as := [vI ((p : Nat) : Int)]) (st := []) hO dX1_liveYear_106 rfl (lw_t4 103 rfl rfl) kX7_move (T := TX7) rfl hs.1 hs.2.1 (ctC_7_move μ8 hs p) (by decide) rfl rfl rfl (Nat.le_of_ble_eq_true rfl) (fun μ11 hq12 => ?_)
      have e_μ11 := hq12
      refine aw_fg (ls' := [some (vR 76), some (vR s), some (vI f), none, none]) ⟨rfl, rfl, rfl, trivial⟩ ?_
      exact j109 μ11 (by
        have e2 : fatF ν0 F = (fu F.1 31 (bXor (F.1 31) (bShl 1 (p : Int))), seed1 (seed1 F.2)) := by unfold fatF; rw [if_pos (by rw [← hY_m.2.1, ← e_a]; omega), ← h25, ← hY_m.2.1, ← hx_μ5, ← e_b]
        rw [e2]
        have hST : ST μ8 s (fu F.1 31 (bXor (F.1 31) (bShl 1 (p : Int)))) μ11 := by
          rw [e_μ11, hJ_μ8.S.aw, h17]
          have q := ST.rf hJ_μ8.S
          rw [h17] at q
          exact q.st (by decide) (by decide) rfl _
        have hx := xor_rng (a := F.1 31) (q := (p : Int)) (by have := hGk.rest; omega) (by have := hGk.rest; omega) (by omega) (by omega)
        have := hY_μ8.st hST (hGk.upd (by omega) (by omega) (by omega) (by omega) (by omega) (fun _ => hx) (by omega))
        rw [← hY_m.2.1, ← hx_μ5, ← hx_μ8]
        exact this)
  have j39 : ∀ m, YS μ s ν0 (walkK ν0 (ν0.1 17, μ.2.1) 3) m → AW K 39 [some (vR 76), some (vR s), some (vI f), none, none] [] m := by
    intro m hY_m
    have hGk := walkK_ok h.B (s := (ν0.1 17, μ.2.1)) h.B.now 3
    generalize walkK ν0 (ν0.1 17, μ.2.1) 3 = F at hY_m hGk j84
    obtain ⟨ν, hν⟩ : ∃ ν, ν = wN ν0 F.1 := ⟨_, rfl⟩
    have h17 : ν.1 17 = F.1 := by rw [hν, wN_17]
    have h25 : ν.1 0 25 = ν0.1 0 25 := by rw [hν, wN_k (by decide)]
    have hJ_m := hY_m.1
    rw [← hν] at hJ_m
    refine aw_aload_n hO dX1_liveYear_39 rfl rfl ?_
    refine aw_aload_n hO dX1_liveYear_40 rfl rfl ?_
    refine gC_X1_15_76 hO dX1_liveYear_41 rfl ?_
    refine gC_X1_42_25 hO dX1_liveYear_44 rfl ?_
    refine aw_cg hJ_m.z.T.n ?_
    refine aw_callVE (as := [vI (ν.1 0 25)]) (st := []) hO dX1_liveYear_47 rfl (lw_t4 92 rfl rfl) kX1_draw (T := TX1) rfl (by decide) rfl (cJ_draw m (j := (ν.1 0 25)) (by omega) (by omega)) (by decide) rfl rfl rfl (Nat.le_of_ble_eq_true rfl) (fun v13 μ14 hq15 => ?_)
    obtain ⟨e_a, e_μ14⟩ := hq15
    have hr_a := drw_rng (x := seed1 m.2.1) (j := (ν.1 0 25)) (by omega)
    rw [← e_a] at hr_a
    have hY_μ14 := hY_m.lg (x := seed1 m.2.1)
    rw [← e_μ14] at hY_μ14
    have hx_μ14 : μ14.2.1 = seed1 m.2.1 := by rw [e_μ14]; rfl
    rw [← hx_μ14] at hY_μ14
    try dsimp only at hY_μ14
    have hJ_μ14 : JR μ14 s ν := by rw [e_μ14]; exact hJ_m.lg
    obtain ⟨p, hn_p⟩ : ∃ x : Nat, v13 = (x : Int) := ⟨v13.toNat, by omega⟩
    subst hn_p
    refine aw_istore_n (ls' := [some (vR 76), some (vR s), some (vI f), some (vI ((p : Nat) : Int)), none]) hO dX1_liveYear_50 rfl (Nat.le_of_ble_eq_true rfl) rfl rfl ?_
    refine aw_aload_n hO dX1_liveYear_51 rfl rfl ?_
    refine aw_iconst hO dX1_liveYear_52 rfl ?_
    refine aw_callVE (as := [vI 2]) (st := []) hO dX1_liveYear_53 rfl (lw_t4 92 rfl rfl) kX1_draw (T := TX1) rfl (by decide) rfl (cJ_draw μ14 (j := 2) (by omega) (by omega)) (by decide) rfl rfl rfl (Nat.le_of_ble_eq_true rfl) (fun v16 μ17 hq18 => ?_)
    obtain ⟨e_b, e_μ17⟩ := hq18
    have hr_b := drw_rng (x := seed1 μ14.2.1) (j := 2) (by omega)
    rw [← e_b] at hr_b
    have hY_μ17 := hY_μ14.lg (x := seed1 μ14.2.1)
    rw [← e_μ17] at hY_μ17
    have hx_μ17 : μ17.2.1 = seed1 μ14.2.1 := by rw [e_μ17]; rfl
    rw [← hx_μ17] at hY_μ17
    try dsimp only at hY_μ17
    have hJ_μ17 : JR μ17 s ν := by rw [e_μ17]; exact hJ_μ14.lg
    obtain ⟨t, hn_t⟩ : ∃ x : Nat, v16 = (x : Int) := ⟨v16.toNat, by omega⟩
    subst hn_t
    refine aw_istore (ls' := [some (vR 76), some (vR s), some (vI f), some (vI ((p : Nat) : Int)), some (vI ((t : Nat) : Int))]) hO dX1_liveYear_56 rfl (Nat.le_of_ble_eq_true rfl) rfl rfl ?_
    refine aw_aload_n hO dX1_liveYear_58 rfl rfl ?_
    refine aw_iload_n hO dX1_liveYear_59 rfl rfl ?_
    refine aw_iload hO dX1_liveYear_60 rfl rfl ?_
    refine aw_callVI (as := [vI ((p : Nat) : Int), vI ((t : Nat) : Int)]) (st := []) hO dX1_liveYear_62 rfl (lw_t4 100 rfl rfl) kX7_canFeign (T := TX7) rfl hs.1 hs.2.1 (cJ_canFeign hJ_μ17.ob hJ_μ17.S hJ_μ17.B.now (p := p) (t := t) (by omega) (by omega)) (by decide) rfl rfl rfl (Nat.le_of_ble_eq_true rfl) ?_
    refine aw_ifz_eq (tgt := 84) hO dX1_liveYear_65 rfl rfl (fun c65 => ?_) (fun c65 => ?_)
    · refine aw_fg (ls' := [some (vR 76), some (vR s), some (vI f), none, none]) ⟨rfl, rfl, rfl, trivial⟩ ?_
      exact j84 μ17 (by
        have e2 : feiF ν0 F = (fu F.1 (6 + 2 * p + t) (F.1 (6 + 2 * p + t) + (if hasB (F.1 31) p = false ∧ F.1 (6 + 2 * p + t) < 3 then 1 else 0)), seed1 (seed1 F.2)) := by
          unfold feiF
          rw [← h25, ← hY_m.2.1, ← e_a, ← hx_μ14, ← e_b, Int.toNat_natCast, Int.toNat_natCast]
        rw [e2]
        rw [if_neg (by rw [← h17]; exact c65), fu_self (by omega), ← hY_m.2.1, ← hx_μ14, ← hx_μ17]
        exact hY_μ17)
    · refine aw_aload_n hO dX1_liveYear_68 rfl rfl ?_
      refine aw_iload_n hO dX1_liveYear_69 rfl rfl ?_
      refine aw_iload hO dX1_liveYear_70 rfl rfl ?_
      refine aw_aload_n hO dX1_liveYear_72 rfl rfl ?_
      refine aw_iload_n hO dX1_liveYear_73 rfl rfl ?_
      refine aw_iload hO dX1_liveYear_74 rfl rfl ?_
      refine aw_callVI (as := [vI ((p : Nat) : Int), vI ((t : Nat) : Int)]) (st := [vI ((t : Nat) : Int), vI ((p : Nat) : Int), vR s]) hO dX1_liveYear_76 rfl (lw_t4 101 rfl rfl) kX7_feigned (T := TX7) rfl hs.1 hs.2.1 (cJ_feigned hJ_μ17.ob hJ_μ17.S (p := p) (t := t) (by omega) (by omega)) (by decide) rfl rfl rfl (Nat.le_of_ble_eq_true rfl) ?_
      refine aw_iconst hO dX1_liveYear_79 rfl ?_
      refine aw_iadd hO dX1_liveYear_80 rfl ?_
      refine aw_callVV (as := [vI ((p : Nat) : Int), vI ((t : Nat) : Int), vI ((ν.1 17 (6 + 2 * p + t)) + 1)]) (st := []) hO dX1_liveYear_81 rfl (lw_t4 102 rfl rfl) kX7_setFeigned (T := TX7) rfl hs.1 hs.2.1 (ctC_7_setFeigned μ17 hs (p := p) (t := t) (v := ((ν.1 17 (6 + 2 * p + t)) + 1)) (by omega) (by omega)) (by decide) rfl rfl rfl (Nat.le_of_ble_eq_true rfl) (fun μ20 hq21 => ?_)
      have e_μ20 := hq21
      refine aw_fg (ls' := [some (vR 76), some (vR s), some (vI f), none, none]) ⟨rfl, rfl, rfl, trivial⟩ ?_
      exact j84 μ20 (by
        have e2 : feiF ν0 F = (fu F.1 (6 + 2 * p + t) (F.1 (6 + 2 * p + t) + (if hasB (F.1 31) p = false ∧ F.1 (6 + 2 * p + t) < 3 then 1 else 0)), seed1 (seed1 F.2)) := by
          unfold feiF
          rw [← h25, ← hY_m.2.1, ← e_a, ← hx_μ14, ← e_b, Int.toNat_natCast, Int.toNat_natCast]
        rw [e2]
        have hc : hasB (F.1 31) p = false ∧ F.1 (6 + 2 * p + t) < 3 := by rw [← h17]; exact c65
        rw [if_pos hc]
        have hST : ST μ17 s (fu F.1 (6 + 2 * p + t) (F.1 (6 + 2 * p + t) + 1)) μ20 := by
          rw [e_μ20, h17]
          have q := ST.rf hJ_μ17.S
          rw [h17] at q
          exact q.st (by omega) (by omega) (ri_fei (by omega) (by omega)) _
        have hfe := hGk.fei (j := 6 + 2 * p + t) (by omega) (by omega)
        have := hY_μ17.st hST (hGk.upd (by omega) (fun _ _ => by omega) (by omega) (by omega) (by omega) (by omega) (by omega))
        rw [← hY_m.2.1, ← hx_μ14, ← hx_μ17]
        exact this)
  have lp : ∀ (c : Nat) (i : Nat) (m : Mm), (i + c = 3) → (YS μ s ν0 (walkK ν0 (ν0.1 17, μ.2.1) i) m) → AW K 2 [some (vR 76), some (vR s), some (vI f), some (vI ((i : Nat) : Int)), none] [] m := by
    intro c
    induction c with
    | zero =>
      intro i m hi hY_m
      refine aw_iload_n hO dX1_liveYear_2 rfl rfl ?_
      refine aw_iconst hO dX1_liveYear_3 rfl ?_
      refine aw_icmp_ge (tgt := 39) hO dX1_liveYear_4 rfl rfl (inRn (by omega)) (inRlit _) (fun c4 => ?_) (fun c4 => ?_)
      · refine aw_fg (ls' := [some (vR 76), some (vR s), some (vI f), none, none]) ⟨rfl, rfl, rfl, trivial⟩ ?_
        exact j39 m (by rw [show 3 = i by omega]; exact hY_m)
      · exact absurd c4 (by omega)
    | succ c ih =>
      intro i m hi hY_m
      have hGk := walkK_ok h.B (s := (ν0.1 17, μ.2.1)) h.B.now i
      obtain ⟨F, hF⟩ : ∃ F, F = walkK ν0 (ν0.1 17, μ.2.1) i := ⟨_, rfl⟩
      rw [← hF] at hY_m hGk
      obtain ⟨ν, hν⟩ : ∃ ν, ν = wN ν0 F.1 := ⟨_, rfl⟩
      have h17 : ν.1 17 = F.1 := by rw [hν, wN_17]
      have h25 : ν.1 0 25 = ν0.1 0 25 := by rw [hν, wN_k (by decide)]
      have hJ_m := hY_m.1
      rw [← hν] at hJ_m
      refine aw_iload_n hO dX1_liveYear_2 rfl rfl ?_
      refine aw_iconst hO dX1_liveYear_3 rfl ?_
      refine aw_icmp_ge (tgt := 39) hO dX1_liveYear_4 rfl rfl (inRn (by omega)) (inRlit _) (fun c4 => ?_) (fun c4 => ?_)
      · exact absurd c4 (by omega)
      · refine aw_aload_n hO dX1_liveYear_7 rfl rfl ?_
        refine aw_bipush hO dX1_liveYear_8 rfl (by decide) (by decide) ?_
        refine aw_callVE (as := [vI 21]) (st := []) hO dX1_liveYear_10 rfl (lw_t4 92 rfl rfl) kX1_draw (T := TX1) rfl (by decide) rfl (cJ_draw m (j := 21) (by omega) (by omega)) (by decide) rfl rfl rfl (Nat.le_of_ble_eq_true rfl) (fun v22 μ23 hq24 => ?_)
        obtain ⟨e_a, e_μ23⟩ := hq24
        have hr_a := drw_rng (x := seed1 m.2.1) (j := 21) (by omega)
        rw [← e_a] at hr_a
        have hY_μ23 := hY_m.lg (x := seed1 m.2.1)
        rw [← e_μ23] at hY_μ23
        have hx_μ23 : μ23.2.1 = seed1 m.2.1 := by rw [e_μ23]; rfl
        rw [← hx_μ23] at hY_μ23
        try dsimp only at hY_μ23
        have hJ_μ23 : JR μ23 s ν := by rw [e_μ23]; exact hJ_m.lg
        refine aw_istore (ls' := [some (vR 76), some (vR s), some (vI f), some (vI ((i : Nat) : Int)), some (vI v22)]) hO dX1_liveYear_13 rfl (Nat.le_of_ble_eq_true rfl) rfl rfl ?_
        refine aw_aload_n hO dX1_liveYear_15 rfl rfl ?_
        refine aw_aload_n hO dX1_liveYear_16 rfl rfl ?_
        refine aw_iload hO dX1_liveYear_17 rfl rfl ?_
        refine aw_callVI (as := [vR s, vI v22]) (st := []) hO dX1_liveYear_19 rfl (lw_t4 98 rfl rfl) kX1_canReach (T := TX1) rfl (by decide) rfl (cJ_canReach hJ_μ23 (v := v22) (by omega) (by omega)) (by decide) rfl rfl rfl (Nat.le_of_ble_eq_true rfl) ?_
        refine aw_ifz_eq (tgt := 33) hO dX1_liveYear_22 rfl rfl (fun c22 => ?_) (fun c22 => ?_)
        · refine aw_iinc (ls' := [some (vR 76), some (vR s), some (vI f), some (vI (((i : Nat) : Int) + 1)), some (vI v22)]) hO dX1_liveYear_33 rfl rfl rfl rfl ?_
          refine aw_lsq (ls' := [some (vR 76), some (vR s), some (vI f), some (vI (((i + 1) : Nat) : Int)), some (vI v22)]) rfl ?_
          refine aw_goto (tgt := 2) hO dX1_liveYear_36 rfl ?_
          refine aw_fg (ls' := [some (vR 76), some (vR s), some (vI f), some (vI (((i + 1) : Nat) : Int)), none]) ⟨rfl, rfl, rfl, rfl, trivial⟩ ?_
          exact ih (i + 1) μ23 (by omega) (by
            rw [walkK, ← hF]
            have e2 : walk1 ν0 F = (F.1, seed1 F.2) := by unfold walk1; rw [← hY_m.2.1, ← e_a, if_neg (by rw [← h17]; exact c22)]
            rw [e2, ← hY_m.2.1, ← hx_μ23]; exact hY_μ23)
        · refine aw_aload_n hO dX1_liveYear_25 rfl rfl ?_
          refine aw_aload_n hO dX1_liveYear_26 rfl rfl ?_
          refine aw_iload hO dX1_liveYear_27 rfl rfl ?_
          refine aw_callVE (as := [vR s, vI v22]) (st := []) hO dX1_liveYear_29 rfl (lw_t4 99 rfl rfl) kX1_walkTo (T := TX1) rfl (by decide) rfl (cJ_walkTo hJ_μ23 (v := v22) (by omega) (by omega)) (by decide) rfl rfl rfl (Nat.le_of_ble_eq_true rfl) (fun v25 μ26 hq27 => ?_)
          obtain ⟨e_r, hST⟩ := hq27
          refine aw_pop hO dX1_liveYear_32 rfl rfl ?_
          refine aw_iinc (ls' := [some (vR 76), some (vR s), some (vI f), some (vI (((i : Nat) : Int) + 1)), some (vI v22)]) hO dX1_liveYear_33 rfl rfl rfl rfl ?_
          refine aw_lsq (ls' := [some (vR 76), some (vR s), some (vI f), some (vI (((i + 1) : Nat) : Int)), some (vI v22)]) rfl ?_
          refine aw_goto (tgt := 2) hO dX1_liveYear_36 rfl ?_
          refine aw_fg (ls' := [some (vR 76), some (vR s), some (vI f), some (vI (((i + 1) : Nat) : Int)), none]) ⟨rfl, rfl, rfl, rfl, trivial⟩ ?_
          exact ih (i + 1) μ26 (by omega) (by
            rw [walkK, ← hF]
            rw [h17] at c22 hST
            have e2 : walk1 ν0 F = (walkF F.1 v22 (okW ν v22) (ν.1 0 25).toNat, seed1 F.2) := by unfold walk1; rw [← hY_m.2.1, ← e_a, if_pos c22, ← hν, h25]
            rw [e2]
            have := hY_μ23.st hST (walk_ok hGk (by omega) (by omega) (by omega) c22.2)
            rw [← hY_m.2.1, ← hx_μ23]
            exact this)
  refine aw_iconst hO dX1_liveYear_0 rfl ?_
  refine aw_istore_n (ls' := [some (vR 76), some (vR s), some (vI f), some (vI 0), none]) hO dX1_liveYear_1 rfl (Nat.le_of_ble_eq_true rfl) rfl rfl ?_
  refine aw_lsq (ls' := [some (vR 76), some (vR s), some (vI f), some (vI ((0 : Nat) : Int)), none]) rfl ?_
  exact lp 3 0 μ rfl ⟨by show JR μ s (wN ν0 (ν0.1 17)); rw [wN_self]; exact h, rfl, EY.rf, fun _ _ => rfl⟩
