/-! ## questions (3): games -/
theorem gamS_x {f : Nat → Int} {i j : Nat} {x y x' : Int} (h : i ≠ j) : fu (gamS f i j x y) (6 + 2 * i) x' = gamS f i j x' y := by
  unfold gamS
  rw [fu_comm (by omega), fu_fu]
theorem gamS_y {f : Nat → Int} {i j : Nat} {x y y' : Int} : fu (gamS f i j x y) (6 + 2 * j) y' = gamS f i j x y' := by
  unfold gamS
  rw [fu_fu]
theorem gamS_ne {f : Nat → Int} {i j k : Nat} {x y : Int} (h1 : k ≠ 6 + 2 * i) (h2 : k ≠ 6 + 2 * j) : gamS f i j x y k = fu (fu f i (min 9 (f i + 1))) j (min 9 (f j + 1)) k := by
  unfold gamS
  rw [fu_ne h2, fu_ne h1]
theorem gamS_i {f : Nat → Int} {i j : Nat} {x y : Int} (h : i ≠ j) : gamS f i j x y (6 + 2 * i) = x := by
  unfold gamS
  rw [fu_ne (by omega), fu_eq]
theorem gamS_0 {f : Nat → Int} {i j : Nat} (hi : i < 6) (hj : j < 6) : gamS f i j (f (6 + 2 * i)) (f (6 + 2 * j)) = fu (fu f i (min 9 (f i + 1))) j (min 9 (f j + 1)) := by
  unfold gamS
  rw [fu_self (i := 6 + 2 * i) (by rw [fu_ne (by omega), fu_ne (by omega)]), fu_self (by rw [fu_ne (by omega), fu_ne (by omega)])]
theorem gamS_okC {f : Nat → Int} (h : NowOK f) {i j : Nat} (hi : i < 6) (hj : j < 6) {x y : Int} (hx : 0 ≤ x ∧ x ≤ 3) (hy : 0 ≤ y ∧ y ≤ 3) : NowOK (gamS f i j x y) := by
  have h1 := h.met hi
  have h2 := h.met hj
  exact (((h.upd (i := i) (fun _ => by omega) (by omega) (by omega) (by omega) (by omega) (by omega) (by omega)).upd (i := j) (fun _ => by omega) (by omega) (by omega) (by omega) (by omega) (by omega) (by omega)).upd (by omega) (fun _ _ => hx) (by omega) (by omega) (by omega) (by omega) (by omega)).upd (by omega) (fun _ _ => hy) (by omega) (by omega) (by omega) (by omega) (by omega)
/-- while a game is tried out -/
def TG (μ ν : Mm) (i j : Nat) (c : Int) (x y : Int) (m : Mm) : Prop := Fr qS μ m ∧ JR m 78 (wN ν (gamS (ν.1 17) i j x y)) ∧ ∀ o, o < (ν.1 0 25).toNat → o ≠ i → o ≠ j → hasB c o = true → m.1 75 o = appealM (wN ν (gamS (ν.1 17) i j x y)) o
theorem gam_app {ν : Mm} {i j o : Nat} {x y x' y' : Int} (ho : o < 6) (hi : i < 6) (hj : j < 6) (h1 : o ≠ i ∨ x = x') (h2 : o ≠ j) (hij : i ≠ j) : appealM (wN ν (gamS (ν.1 17) i j x y)) o = appealM (wN ν (gamS (ν.1 17) i j x' y')) o := by
  by_cases e : o = i
  · have e2 : x = x' := by rcases h1 with q | q; exact absurd e q; exact q
    subst e
    subst e2
    exact appealM_row (by rw [gamS_ne (by omega) (by omega), gamS_ne (by omega) (by omega)]) (by rw [gamS_i hij, gamS_i hij]) (by rw [gamS_ne (by omega) (by omega), gamS_ne (by omega) (by omega)]) (by rw [gamS_ne (by omega) (by omega), gamS_ne (by omega) (by omega)]) (by rw [gamS_ne (by omega) (by omega), gamS_ne (by omega) (by omega)])
  · exact appealM_row (by rw [gamS_ne (by omega) (by omega), gamS_ne (by omega) (by omega)]) (by rw [gamS_ne (by omega) (by omega), gamS_ne (by omega) (by omega)]) (by rw [gamS_ne (by omega) (by omega), gamS_ne (by omega) (by omega)]) (by rw [gamS_ne (by omega) (by omega), gamS_ne (by omega) (by omega)]) (by rw [gamS_ne (by omega) (by omega), gamS_ne (by omega) (by omega)])
theorem TG.mv {μ ν m m' : Mm} {i j : Nat} {c x y x' y' : Int} (h : TG μ ν i j c x y m) (hi : i < 6) (hj : j < 6) (hij : i ≠ j) (hm : ST m 78 (gamS (ν.1 17) i j x' y') m') (hx : 0 ≤ x' ∧ x' ≤ 3) (hy : 0 ≤ y' ∧ y' ≤ 3) (hN : NowOK (ν.1 17)) : TG μ ν i j c x' y' m' := by
  refine ⟨h.1.tr hm.qs, ?_, fun o ho h1 h2 hc => ?_⟩
  · have := h.2.1.to hm (gamS_okC hN hi hj hx hy)
    rwa [wN_wN] at this
  · have hn : ν.1 0 25 ≤ 6 := h.2.1.B.np.2
    rw [hm.1.1 75 o (by omega), h.2.2 o ho h1 h2 hc]
    exact gam_app (by omega) (by omega) (by omega) (Or.inl h1) h2 hij
def pkG (ν : Mm) (i j : Nat) (x y : Int) : Int := pickM (wN ν (gamS (ν.1 17) i j x y)) (ν.1 0 25).toNat
/-- the winners of all games -/
def WN (ν : Mm) (i j : Nat) (m : Mm) : Prop := ∀ x y : Nat, x < 4 → y < 4 → m.1 80 (4 * x + y) = pkG ν i j x y
theorem allB_no {P : Nat → Bool} {k : Nat} (h : P k = false) : ∀ n, k < n → allB P n = false
  | 0, hk => by omega
  | n + 1, hk => by
    rw [allB]
    by_cases e : k = n
    · rw [← e, h, Bool.and_false]
    · rw [allB_no h n (by omega), Bool.false_and]
theorem dX6_play_0 : decode cX6_play 0 = .ok (.aload_n 0, 1) := by decide +kernel
theorem dX6_play_1 : decode cX6_play 1 = .ok (.getfield 12, 3) := by decide +kernel
theorem dX6_play_4 : decode cX6_play 4 = .ok (.aload_n 1, 1) := by decide +kernel
theorem dX6_play_5 : decode cX6_play 5 = .ok (.invokevirtual 58, 3) := by decide +kernel
theorem dX6_play_8 : decode cX6_play 8 = .ok (.aload_n 0, 1) := by decide +kernel
theorem dX6_play_9 : decode cX6_play 9 = .ok (.getfield 12, 3) := by decide +kernel
theorem dX6_play_12 : decode cX6_play 12 = .ok (.iload_n 2, 1) := by decide +kernel
theorem dX6_play_13 : decode cX6_play 13 = .ok (.invokevirtual 62, 3) := by decide +kernel
theorem dX6_play_16 : decode cX6_play 16 = .ok (.aload_n 0, 1) := by decide +kernel
theorem dX6_play_17 : decode cX6_play 17 = .ok (.getfield 12, 3) := by decide +kernel
theorem dX6_play_20 : decode cX6_play 20 = .ok (.iload_n 3, 1) := by decide +kernel
theorem dX6_play_21 : decode cX6_play 21 = .ok (.invokevirtual 62, 3) := by decide +kernel
theorem dX6_play_24 : decode cX6_play 24 = .ok (.aload_n 0, 1) := by decide +kernel
theorem dX6_play_25 : decode cX6_play 25 = .ok (.getfield 33, 3) := by decide +kernel
theorem dX6_play_28 : decode cX6_play 28 = .ok (.aload_n 0, 1) := by decide +kernel
theorem dX6_play_29 : decode cX6_play 29 = .ok (.getfield 12, 3) := by decide +kernel
theorem dX6_play_32 : decode cX6_play 32 = .ok (.invokevirtual 37, 3) := by decide +kernel
theorem dX6_play_35 : decode cX6_play 35 = .ok (.istore 4, 2) := by decide +kernel
theorem dX6_play_37 : decode cX6_play 37 = .ok (.aload_n 0, 1) := by decide +kernel
theorem dX6_play_38 : decode cX6_play 38 = .ok (.getfield 33, 3) := by decide +kernel
theorem dX6_play_41 : decode cX6_play 41 = .ok (.aload_n 0, 1) := by decide +kernel
theorem dX6_play_42 : decode cX6_play 42 = .ok (.getfield 12, 3) := by decide +kernel
theorem dX6_play_45 : decode cX6_play 45 = .ok (.invokevirtual 66, 3) := by decide +kernel
theorem dX6_play_48 : decode cX6_play 48 = .ok (.istore 5, 2) := by decide +kernel
theorem dX6_play_50 : decode cX6_play 50 = .ok (.aload_n 0, 1) := by decide +kernel
theorem dX6_play_51 : decode cX6_play 51 = .ok (.getfield 33, 3) := by decide +kernel
theorem dX6_play_54 : decode cX6_play 54 = .ok (.aload_n 0, 1) := by decide +kernel
theorem dX6_play_55 : decode cX6_play 55 = .ok (.getfield 12, 3) := by decide +kernel
theorem dX6_play_58 : decode cX6_play 58 = .ok (.iload 4, 2) := by decide +kernel
theorem dX6_play_60 : decode cX6_play 60 = .ok (.invokevirtual 43, 3) := by decide +kernel
theorem dX6_play_63 : decode cX6_play 63 = .ok (.iconst 0, 1) := by decide +kernel
theorem dX6_play_64 : decode cX6_play 64 = .ok (.istore 6, 2) := by decide +kernel
theorem dX6_play_66 : decode cX6_play 66 = .ok (.iload 6, 2) := by decide +kernel
theorem dX6_play_68 : decode cX6_play 68 = .ok (.iconst 4, 1) := by decide +kernel
theorem dX6_play_69 : decode cX6_play 69 = .ok (.if_icmp .ge 97, 3) := by decide +kernel
theorem dX6_play_72 : decode cX6_play 72 = .ok (.aload_n 0, 1) := by decide +kernel
theorem dX6_play_73 : decode cX6_play 73 = .ok (.getfield 12, 3) := by decide +kernel
theorem dX6_play_76 : decode cX6_play 76 = .ok (.iload_n 2, 1) := by decide +kernel
theorem dX6_play_77 : decode cX6_play 77 = .ok (.iconst 0, 1) := by decide +kernel
theorem dX6_play_78 : decode cX6_play 78 = .ok (.iload 6, 2) := by decide +kernel
theorem dX6_play_80 : decode cX6_play 80 = .ok (.invokevirtual 73, 3) := by decide +kernel
theorem dX6_play_83 : decode cX6_play 83 = .ok (.aload_n 0, 1) := by decide +kernel
theorem dX6_play_84 : decode cX6_play 84 = .ok (.getfield 33, 3) := by decide +kernel
theorem dX6_play_87 : decode cX6_play 87 = .ok (.aload_n 0, 1) := by decide +kernel
theorem dX6_play_88 : decode cX6_play 88 = .ok (.getfield 12, 3) := by decide +kernel
theorem dX6_play_91 : decode cX6_play 91 = .ok (.iconst 1, 1) := by decide +kernel
theorem dX6_play_92 : decode cX6_play 92 = .ok (.iload_n 2, 1) := by decide +kernel
theorem dX6_play_93 : decode cX6_play 93 = .ok (.ishl, 1) := by decide +kernel
theorem dX6_play_94 : decode cX6_play 94 = .ok (.invokevirtual 43, 3) := by decide +kernel
theorem dX6_play_97 : decode cX6_play 97 = .ok (.iconst 0, 1) := by decide +kernel
theorem dX6_play_98 : decode cX6_play 98 = .ok (.istore 7, 2) := by decide +kernel
theorem dX6_play_100 : decode cX6_play 100 = .ok (.iload 7, 2) := by decide +kernel
theorem dX6_play_102 : decode cX6_play 102 = .ok (.iconst 4, 1) := by decide +kernel
theorem dX6_play_103 : decode cX6_play 103 = .ok (.if_icmp .ge 57, 3) := by decide +kernel
theorem dX6_play_106 : decode cX6_play 106 = .ok (.aload_n 0, 1) := by decide +kernel
theorem dX6_play_107 : decode cX6_play 107 = .ok (.getfield 12, 3) := by decide +kernel
theorem dX6_play_110 : decode cX6_play 110 = .ok (.iload_n 3, 1) := by decide +kernel
theorem dX6_play_111 : decode cX6_play 111 = .ok (.iconst 0, 1) := by decide +kernel
theorem dX6_play_112 : decode cX6_play 112 = .ok (.iload 7, 2) := by decide +kernel
theorem dX6_play_114 : decode cX6_play 114 = .ok (.invokevirtual 73, 3) := by decide +kernel
theorem dX6_play_117 : decode cX6_play 117 = .ok (.aload_n 0, 1) := by decide +kernel
theorem dX6_play_118 : decode cX6_play 118 = .ok (.getfield 33, 3) := by decide +kernel
theorem dX6_play_121 : decode cX6_play 121 = .ok (.aload_n 0, 1) := by decide +kernel
theorem dX6_play_122 : decode cX6_play 122 = .ok (.getfield 12, 3) := by decide +kernel
theorem dX6_play_125 : decode cX6_play 125 = .ok (.iconst 1, 1) := by decide +kernel
theorem dX6_play_126 : decode cX6_play 126 = .ok (.iload_n 3, 1) := by decide +kernel
theorem dX6_play_127 : decode cX6_play 127 = .ok (.ishl, 1) := by decide +kernel
theorem dX6_play_128 : decode cX6_play 128 = .ok (.invokevirtual 43, 3) := by decide +kernel
theorem dX6_play_131 : decode cX6_play 131 = .ok (.aload_n 0, 1) := by decide +kernel
theorem dX6_play_132 : decode cX6_play 132 = .ok (.getfield 18, 3) := by decide +kernel
theorem dX6_play_135 : decode cX6_play 135 = .ok (.iconst 4, 1) := by decide +kernel
theorem dX6_play_136 : decode cX6_play 136 = .ok (.iload 6, 2) := by decide +kernel
theorem dX6_play_138 : decode cX6_play 138 = .ok (.imul, 1) := by decide +kernel
theorem dX6_play_139 : decode cX6_play 139 = .ok (.iload 7, 2) := by decide +kernel
theorem dX6_play_141 : decode cX6_play 141 = .ok (.iadd, 1) := by decide +kernel
theorem dX6_play_142 : decode cX6_play 142 = .ok (.aload_n 0, 1) := by decide +kernel
theorem dX6_play_143 : decode cX6_play 143 = .ok (.getfield 33, 3) := by decide +kernel
theorem dX6_play_146 : decode cX6_play 146 = .ok (.iload 4, 2) := by decide +kernel
theorem dX6_play_148 : decode cX6_play 148 = .ok (.iload 5, 2) := by decide +kernel
theorem dX6_play_150 : decode cX6_play 150 = .ok (.invokevirtual 77, 3) := by decide +kernel
theorem dX6_play_153 : decode cX6_play 153 = .ok (.iastore, 1) := by decide +kernel
theorem dX6_play_154 : decode cX6_play 154 = .ok (.iinc 7 1, 3) := by decide +kernel
theorem dX6_play_157 : decode cX6_play 157 = .ok (.goto (-57), 3) := by decide +kernel
theorem dX6_play_160 : decode cX6_play 160 = .ok (.iinc 6 1, 3) := by decide +kernel
theorem dX6_play_163 : decode cX6_play 163 = .ok (.goto (-97), 3) := by decide +kernel
theorem dX6_play_166 : decode cX6_play 166 = .ok (.return_, 1) := by decide +kernel
set_option maxRecDepth 100000 in
theorem gC_X6_18_77 {Q : Option AV → Mm → Prop} {K : KT} {cc : ByteArray} {nL d : Nat} {ret : Option FieldType} {pc n : Nat} {ls : List (Option AV)} {st : List AV} {μ : Mm} (hO : KOk PC Q K cc RX6 nL d ret) (hd : decode cc pc = .ok (.getfield 18, 3)) (hn : pc + 3 = n) (kk : AW K n ls (vR 80 :: st) μ) : AW K pc ls (vR 77 :: st) μ := aw_get (f := 3) hO hd hn okX6 (by decide) (lw_t1 238 rfl rfl) (by decide) rfl rfl rfl kk
set_option maxHeartbeats 4000000 in
set_option maxRecDepth 100000 in
theorem cJ_play {μ ν : Mm} (h : JR μ 27 ν) {i j : Nat} (hi : (i : Int) < ν.1 0 25) (hj : (j : Int) < ν.1 0 25) (hij : i ≠ j) : CtV PC 4 yX6_play cX6_play 8 none [vR 77, vR 27, vI ((i : Nat) : Int), vI ((j : Nat) : Int)] μ (fun m => Fr qS μ m ∧ WN ν i j m) := by
  refine ct_intro [some (vR 77), some (vR 27), some (vI ((i : Nat) : Int)), some (vI ((j : Nat) : Int)), none, none, none, none] RX6 (by decide) rfl XCo rfl (Nat.le_of_ble_eq_true rfl) (fun K hO => ?_)
  have hs := h.ob
  have hnp := h.B.np
  have hnt := h.B.nt
  have hr := h.B.now.rest
  have hmi := h.B.now.met (p := i) (by omega)
  have hmj := h.B.now.met (p := j) (by omega)
  have f0 := h.B.now.fei (j := 6 + 2 * i) (by omega) (by omega)
  have f1 := h.B.now.fei (j := 6 + 2 * j) (by omega) (by omega)
  refine aw_aload_n hO dX6_play_0 rfl rfl ?_
  refine gC_X6_12_77 hO dX6_play_1 rfl ?_
  refine aw_aload_n hO dX6_play_4 rfl rfl ?_
  refine aw_callVV (as := [vR 27]) (st := []) hO dX6_play_5 rfl (lw_t4 175 rfl rfl) kX7_copyFrom (T := TX7) rfl (by decide) rfl (ctC_7_copyFrom μ sob78 sob27) (by decide) rfl rfl rfl (Nat.le_of_ble_eq_true rfl) (fun μ2 hq3 => ?_)
  have e_μ2 := hq3
  have hJc : JR μ2 78 ν := by rw [e_μ2]; exact h.cp
  have hFc : Fr qS μ μ2 := by rw [e_μ2]; exact Fr.rf.cp (fun i => Or.inr (Or.inl rfl)) _ _ _
  refine aw_aload_n hO dX6_play_8 rfl rfl ?_
  refine gC_X6_12_77 hO dX6_play_9 rfl ?_
  refine aw_iload_n hO dX6_play_12 rfl rfl ?_
  refine aw_callVV (as := [vI ((i : Nat) : Int)]) (st := []) hO dX6_play_13 rfl (lw_t4 180 rfl rfl) kX7_meet (T := TX7) rfl (by decide) rfl (ctC_7_meet μ2 sob78 (p := i) (by omega) (by rw [hJc.S.met (by omega)]; exact hmi)) (by decide) rfl rfl rfl (Nat.le_of_ble_eq_true rfl) (fun μ5 hq6 => ?_)
  have e_μ5 := hq6
  have hS0 : ST μ2 78 (fu (ν.1 17) i (min 9 (ν.1 17 i + 1))) μ5 := by rw [e_μ5, hJc.S.met (by omega)]; exact (ST.rf hJc.S).met (by omega) _
  have hmj2 : μ5.1 79 (9 + j) = ν.1 17 j := by have := hS0.2.1.met (p := j) (by omega); rw [fu_ne (by omega)] at this; exact this
  refine aw_aload_n hO dX6_play_16 rfl rfl ?_
  refine gC_X6_12_77 hO dX6_play_17 rfl ?_
  refine aw_iload_n hO dX6_play_20 rfl rfl ?_
  refine aw_callVV (as := [vI ((j : Nat) : Int)]) (st := []) hO dX6_play_21 rfl (lw_t4 180 rfl rfl) kX7_meet (T := TX7) rfl (by decide) rfl (ctC_7_meet μ5 sob78 (p := j) (by omega) (by rw [hmj2]; exact hmj)) (by decide) rfl rfl rfl (Nat.le_of_ble_eq_true rfl) (fun μ8 hq9 => ?_)
  have e_μ8 := hq9
  have hSm : ST μ2 78 (gamS (ν.1 17) i j (ν.1 17 (6 + 2 * i)) (ν.1 17 (6 + 2 * j))) μ8 := by rw [gamS_0 (by omega) (by omega), e_μ8, hmj2]; exact hS0.met (by omega) _
  obtain ⟨ν1, hν1⟩ : ∃ ν1, ν1 = wN ν (gamS (ν.1 17) i j (ν.1 17 (6 + 2 * i)) (ν.1 17 (6 + 2 * j))) := ⟨_, rfl⟩
  have hJ_μ8 : JR μ8 78 ν1 := by rw [hν1]; exact hJc.to hSm (gamS_okC h.B.now (by omega) (by omega) f0 f1)
  have hF_μ8 := hFc.tr hSm.qs
  have hn1 : ν1.1 0 25 = ν.1 0 25 := by rw [hν1]; rfl
  refine aw_aload_n hO dX6_play_24 rfl rfl ?_
  refine gC_X6_33_77 hO dX6_play_25 rfl ?_
  refine aw_aload_n hO dX6_play_28 rfl rfl ?_
  refine gC_X6_12_77 hO dX6_play_29 rfl ?_
  refine aw_callVI (as := [vR 78]) (st := []) hO dX6_play_32 rfl (lw_t4 163 rfl rfl) kX3_candidates (T := TX3) rfl (by decide) rfl (cJ_candidates hJ_μ8) (by decide) rfl rfl rfl (Nat.le_of_ble_eq_true rfl) ?_
  refine aw_istore (ls' := [some (vR 77), some (vR 27), some (vI ((i : Nat) : Int)), some (vI ((j : Nat) : Int)), some (vI (canT ν1)), none, none, none]) hO dX6_play_35 rfl (Nat.le_of_ble_eq_true rfl) rfl rfl ?_
  refine aw_aload_n hO dX6_play_37 rfl rfl ?_
  refine gC_X6_33_77 hO dX6_play_38 rfl ?_
  refine aw_aload_n hO dX6_play_41 rfl rfl ?_
  refine gC_X6_12_77 hO dX6_play_42 rfl ?_
  refine aw_callVI (as := [vR 78]) (st := []) hO dX6_play_45 rfl (lw_t4 181 rfl rfl) kX3_inTown (T := TX3) rfl (by decide) rfl (cJ_inTown hJ_μ8) (by decide) rfl rfl rfl (Nat.le_of_ble_eq_true rfl) ?_
  refine aw_istore (ls' := [some (vR 77), some (vR 27), some (vI ((i : Nat) : Int)), some (vI ((j : Nat) : Int)), some (vI (canT ν1)), some (vI (inT ν1)), none, none]) hO dX6_play_48 rfl (Nat.le_of_ble_eq_true rfl) rfl rfl ?_
  refine aw_aload_n hO dX6_play_50 rfl rfl ?_
  refine gC_X6_33_77 hO dX6_play_51 rfl ?_
  refine aw_aload_n hO dX6_play_54 rfl rfl ?_
  refine gC_X6_12_77 hO dX6_play_55 rfl ?_
  refine aw_iload hO dX6_play_58 rfl rfl ?_
  refine aw_callVV (as := [vR 78, vI (canT ν1)]) (st := []) hO dX6_play_60 rfl (lw_t4 164 rfl rfl) kX3_weigh (T := TX3) rfl (by decide) rfl (cJ_weigh hJ_μ8 (b := (canT ν1))) (by decide) rfl rfl rfl (Nat.le_of_ble_eq_true rfl) (fun μ11 hq12 => ?_)
  have hT0 : TG μ ν i j (canT ν1) (ν.1 17 (6 + 2 * i)) (ν.1 17 (6 + 2 * j)) μ11 := ⟨hF_μ8.tr (hq12.1.mono (fun _ _ e => jS_q e)), by rw [← hν1]; exact hJ_μ8.fj hq12.1, fun o ho h1 h2 hc => by rw [hq12.2 o, hn1, if_pos ⟨ho, hc⟩, ← hν1]⟩
  refine aw_iconst hO dX6_play_63 rfl ?_
  refine aw_istore (ls' := [some (vR 77), some (vR 27), some (vI ((i : Nat) : Int)), some (vI ((j : Nat) : Int)), some (vI (canT ν1)), some (vI (inT ν1)), some (vI 0), none]) hO dX6_play_64 rfl (Nat.le_of_ble_eq_true rfl) rfl rfl ?_
  have tr_ : ∀ (x y : Int), canT (wN ν (gamS (ν.1 17) i j x y)) = canT ν1 ∧ inT (wN ν (gamS (ν.1 17) i j x y)) = inT ν1 := fun x y => by rw [hν1]; exact ⟨canT_row (fun q hq => by rw [gamS_ne (by omega) (by omega), gamS_ne (by omega) (by omega)]) (by rw [gamS_ne (by omega) (by omega), gamS_ne (by omega) (by omega)]), inT_row (by rw [gamS_ne (by omega) (by omega), gamS_ne (by omega) (by omega)])⟩
  have inn : ∀ (x : Nat), x < 4 → (∀ (y0 : Int) (m : Mm), (0 ≤ y0 ∧ y0 ≤ 3) → TG μ ν i j (canT ν1) x y0 m → (∀ x' y' : Nat, x' < x + 1 → y' < 4 → m.1 80 (4 * x' + y') = pkG ν i j x' y') → AW K 160 [some (vR 77), some (vR 27), some (vI ((i : Nat) : Int)), some (vI ((j : Nat) : Int)), some (vI (canT ν1)), some (vI (inT ν1)), some (vI ((x : Nat) : Int)), none] [] m) → ∀ (c y : Nat) (y0 : Int) (m : Mm), y + c = 4 → (0 ≤ y0 ∧ y0 ≤ 3) → TG μ ν i j (canT ν1) x y0 m → (hasB (canT ν1) i = true → m.1 75 i = appealM (wN ν (gamS (ν.1 17) i j x y0)) i) → (∀ x' y' : Nat, (x' < x ∧ y' < 4) ∨ (x' = x ∧ y' < y) → m.1 80 (4 * x' + y') = pkG ν i j x' y') → AW K 100 [some (vR 77), some (vR 27), some (vI ((i : Nat) : Int)), some (vI ((j : Nat) : Int)), some (vI (canT ν1)), some (vI (inT ν1)), some (vI ((x : Nat) : Int)), some (vI ((y : Nat) : Int))] [] m := by
    intro x hx4 k160 c
    induction c with
    | zero =>
      intro y y0 m hyc hy0 hT hI hW
      refine aw_iload hO dX6_play_100 rfl rfl ?_
      refine aw_iconst hO dX6_play_102 rfl ?_
      refine aw_icmp_ge (tgt := 160) hO dX6_play_103 rfl rfl (inRn (by omega)) (inRlit _) (fun c103 => ?_) (fun c103 => ?_)
      · refine aw_fg (ls' := [some (vR 77), some (vR 27), some (vI ((i : Nat) : Int)), some (vI ((j : Nat) : Int)), some (vI (canT ν1)), some (vI (inT ν1)), some (vI ((x : Nat) : Int)), none]) ⟨rfl, rfl, rfl, rfl, rfl, rfl, rfl, trivial⟩ ?_
        exact k160 y0 m hy0 hT (fun x' y' h1 h2 => hW x' y' (by omega))
      · exact absurd c103 (by omega)
    | succ c ih =>
      intro y y0 m hyc hy0 hT hI hW
      refine aw_iload hO dX6_play_100 rfl rfl ?_
      refine aw_iconst hO dX6_play_102 rfl ?_
      refine aw_icmp_ge (tgt := 160) hO dX6_play_103 rfl rfl (inRn (by omega)) (inRlit _) (fun c103 => ?_) (fun c103 => ?_)
      · exact absurd c103 (by omega)
      · refine aw_aload_n hO dX6_play_106 rfl rfl ?_
        refine gC_X6_12_77 hO dX6_play_107 rfl ?_
        refine aw_iload_n hO dX6_play_110 rfl rfl ?_
        refine aw_iconst hO dX6_play_111 rfl ?_
        refine aw_iload hO dX6_play_112 rfl rfl ?_
        refine aw_callVV (as := [vI ((j : Nat) : Int), vI 0, vI ((y : Nat) : Int)]) (st := []) hO dX6_play_114 rfl (lw_t4 183 rfl rfl) kX7_setFeigned (T := TX7) rfl (by decide) rfl (ctC_7_setFeigned m sob78 (p := j) (t := 0) (v := ((y : Nat) : Int)) (by omega) (by decide)) (by decide) rfl rfl rfl (Nat.le_of_ble_eq_true rfl) (fun μ14 hq15 => ?_)
        have e_μ14 := hq15
        have hS1 : ST m 78 (gamS (ν.1 17) i j x y) μ14 := by
          have q := ST.rf hT.2.1.S
          rw [wN_17] at q
          rw [← gamS_y (y := y0), e_μ14]
          exact q.st (by omega) (by omega) (ri_fei (t := 0) (by omega) (by decide)) _
        have hT1 := hT.mv (by omega) (by omega) hij hS1 (by omega) (by omega) h.B.now
        have hI1 : hasB (canT ν1) i = true → μ14.1 75 i = appealM (wN ν (gamS (ν.1 17) i j x y)) i := fun q => by rw [hS1.1.1 75 i (by omega), hI q]; exact gam_app (by omega) (by omega) (by omega) (Or.inr rfl) hij hij
        refine aw_aload_n hO dX6_play_117 rfl rfl ?_
        refine gC_X6_33_77 hO dX6_play_118 rfl ?_
        refine aw_aload_n hO dX6_play_121 rfl rfl ?_
        refine gC_X6_12_77 hO dX6_play_122 rfl ?_
        refine aw_iconst hO dX6_play_125 rfl ?_
        refine aw_iload_n hO dX6_play_126 rfl rfl ?_
        refine aw_ishl hO dX6_play_127 rfl ?_
        refine aw_callVV (as := [vR 78, vI (bShl 1 ((j : Nat) : Int))]) (st := []) hO dX6_play_128 rfl (lw_t4 164 rfl rfl) kX3_weigh (T := TX3) rfl (by decide) rfl (cJ_weigh hT1.2.1 (b := (bShl 1 ((j : Nat) : Int)))) (by decide) rfl rfl rfl (Nat.le_of_ble_eq_true rfl) (fun μ17 hq18 => ?_)
        have hF3 := hq18.1
        have hA3 : ∀ q, μ17.1 75 q = if q < (ν.1 0 25).toNat ∧ hasB (bShl 1 ((j : Nat) : Int)) q = true then appealM (wN ν (gamS (ν.1 17) i j x y)) q else μ14.1 75 q := hq18.2
        have nob : ∀ o, o < 6 → o ≠ j → ¬ (o < (ν.1 0 25).toNat ∧ hasB (bShl 1 ((j : Nat) : Int)) o = true) := fun o ho hoj q => by have q2 := q.2; rw [hasB_shl (by omega) (by omega)] at q2; simp only [decide_eq_true_eq] at q2; omega
        have hT3 : TG μ ν i j (canT ν1) x y μ17 := ⟨hT1.1.tr (hF3.mono (fun _ _ e => jS_q e)), hT1.2.1.fj hF3, fun o ho h1 h2 hc => by rw [hA3 o, if_neg (nob o (by omega) h2)]; exact hT1.2.2 o ho h1 h2 hc⟩
        have hI3 : hasB (canT ν1) i = true → μ17.1 75 i = appealM (wN ν (gamS (ν.1 17) i j x y)) i := fun q => by rw [hA3 i, if_neg (nob i (by omega) hij)]; exact hI1 q
        have hBt := hT3.2.1.B
        have hw3 : ∀ q, q < 6 → hasB (canT (wN ν (gamS (ν.1 17) i j x y))) q = true → μ17.1 75 q = appealM (wN ν (gamS (ν.1 17) i j x y)) q := fun q hq hc => by
          have hqn : q < (ν.1 0 25).toNat := canT_lt hBt hq hc
          have hc2 := hc
          rw [(tr_ _ _).1] at hc2
          by_cases e : q = j
          · subst e; rw [hA3 q, if_pos ⟨hqn, by rw [hasB_shl (by omega) (by omega)]; simp⟩]
          · by_cases e2 : q = i
            · subst e2; exact hI3 hc2
            · exact hT3.2.2 q hqn e2 e hc2
        have hpb := pick_best hBt hw3
        rw [(tr_ _ _).1, (tr_ _ _).2] at hpb
        have hR3 : ∀ q, q < 6 → hasB (canT ν1) q = true → InR (μ17.1 75 q) := fun q hq hc => by rw [hw3 q hq (by rw [(tr_ _ _).1]; exact hc)]; have := appealM_R (wN ν (gamS (ν.1 17) i j x y)) q; exact ⟨by omega, by omega⟩
        have hW3 : ∀ z, μ17.1 80 z = m.1 80 z := fun z => by rw [hF3.1 80 z (by unfold jS; omega), hS1.1.1 80 z (by omega)]
        refine aw_aload_n hO dX6_play_131 rfl rfl ?_
        refine gC_X6_18_77 hO dX6_play_132 rfl ?_
        refine aw_iconst hO dX6_play_135 rfl ?_
        refine aw_iload hO dX6_play_136 rfl rfl ?_
        refine aw_imul hO dX6_play_138 rfl ?_
        refine aw_iload hO dX6_play_139 rfl rfl ?_
        refine aw_iadd hO dX6_play_141 rfl ?_
        refine aw_aload_n hO dX6_play_142 rfl rfl ?_
        refine gC_X6_33_77 hO dX6_play_143 rfl ?_
        refine aw_iload hO dX6_play_146 rfl rfl ?_
        refine aw_iload hO dX6_play_148 rfl rfl ?_
        refine aw_callVI (as := [vI (canT ν1), vI (inT ν1)]) (st := [vI ((4 * ((x : Nat) : Int)) + ((y : Nat) : Int)), vR 80]) hO dX6_play_150 rfl (lw_t4 184 rfl rfl) kX3_choice (T := TX3) rfl (by decide) rfl (cJ_choice (h.fq hT3.1) (b := (canT ν1)) (t := (inT ν1)) hR3) (by decide) rfl rfl rfl (Nat.le_of_ble_eq_true rfl) ?_
        refine aw_cg (show _ = pkG ν i j x y from hpb) ?_
        refine aw_iastn (N := 16) (i := (4 * x + y)) hO dX6_play_153 rfl (by decide) rfl (by decide) (by omega) (by omega) ?_
        refine aw_mm (fun μ19 e_μ19 => ?_)
        refine aw_iinc (ls' := [some (vR 77), some (vR 27), some (vI ((i : Nat) : Int)), some (vI ((j : Nat) : Int)), some (vI (canT ν1)), some (vI (inT ν1)), some (vI ((x : Nat) : Int)), some (vI (((y : Nat) : Int) + 1))]) hO dX6_play_154 rfl rfl rfl rfl ?_
        refine aw_lsq (ls' := [some (vR 77), some (vR 27), some (vI ((i : Nat) : Int)), some (vI ((j : Nat) : Int)), some (vI (canT ν1)), some (vI (inT ν1)), some (vI ((x : Nat) : Int)), some (vI (((y + 1) : Nat) : Int))]) rfl ?_
        refine aw_goto (tgt := 100) hO dX6_play_157 rfl ?_
        refine aw_lsq (ls' := [some (vR 77), some (vR 27), some (vI ((i : Nat) : Int)), some (vI ((j : Nat) : Int)), some (vI (canT ν1)), some (vI (inT ν1)), some (vI ((x : Nat) : Int)), some (vI ((y + 1 : Nat) : Int))]) rfl ?_
        have hFm : Fr qS μ17 μ19 := by rw [e_μ19]; exact Fr.rf.st (Or.inr (Or.inr (Or.inl rfl))) _
        refine ih (y + 1) y μ19 (by omega) (by omega) ⟨hT3.1.tr hFm, hT3.2.1.fr (S := fun k _ => k = 80) (by rw [e_μ19]; exact Fr.st (S := fun k _ => k = 80) Fr.rf rfl _) (fun k i e => by omega) (fun i => by omega), fun o ho h1 h2 hc => by rw [e_μ19, mst_nk (by decide)]; exact hT3.2.2 o ho h1 h2 hc⟩ (fun q => by rw [e_μ19, mst_nk (by decide)]; exact hI3 q) (fun x' y' hq => ?_)
        rw [e_μ19]
        by_cases e : x' = x ∧ y' = y
        · rw [e.1, e.2, mst_eq]
        · rw [mst_ni (by omega), hW3]; exact hW x' y' (by omega)
  have out : ∀ (c x : Nat) (x0 y0 : Int) (m : Mm), x + c = 4 → (0 ≤ x0 ∧ x0 ≤ 3) → (0 ≤ y0 ∧ y0 ≤ 3) → TG μ ν i j (canT ν1) x0 y0 m → (∀ x' y' : Nat, x' < x → y' < 4 → m.1 80 (4 * x' + y') = pkG ν i j x' y') → AW K 66 [some (vR 77), some (vR 27), some (vI ((i : Nat) : Int)), some (vI ((j : Nat) : Int)), some (vI (canT ν1)), some (vI (inT ν1)), some (vI ((x : Nat) : Int)), none] [] m := by
    intro c
    induction c with
    | zero =>
      intro x x0 y0 m hxc hx0 hy0 hT hW
      refine aw_iload hO dX6_play_66 rfl rfl ?_
      refine aw_iconst hO dX6_play_68 rfl ?_
      refine aw_icmp_ge (tgt := 166) hO dX6_play_69 rfl rfl (inRn (by omega)) (inRlit _) (fun c69 => ?_) (fun c69 => ?_)
      · refine aw_vret hO dX6_play_166 ?_
        exact ⟨rfl, hT.1, fun x' y' h1 h2 => hW x' y' (by omega) h2⟩
      · exact absurd c69 (by omega)
    | succ c ih =>
      intro x x0 y0 m hxc hx0 hy0 hT hW
      refine aw_iload hO dX6_play_66 rfl rfl ?_
      refine aw_iconst hO dX6_play_68 rfl ?_
      refine aw_icmp_ge (tgt := 166) hO dX6_play_69 rfl rfl (inRn (by omega)) (inRlit _) (fun c69 => ?_) (fun c69 => ?_)
      · exact absurd c69 (by omega)
      · refine aw_aload_n hO dX6_play_72 rfl rfl ?_
        refine gC_X6_12_77 hO dX6_play_73 rfl ?_
        refine aw_iload_n hO dX6_play_76 rfl rfl ?_
        refine aw_iconst hO dX6_play_77 rfl ?_
        refine aw_iload hO dX6_play_78 rfl rfl ?_
        refine aw_callVV (as := [vI ((i : Nat) : Int), vI 0, vI ((x : Nat) : Int)]) (st := []) hO dX6_play_80 rfl (lw_t4 183 rfl rfl) kX7_setFeigned (T := TX7) rfl (by decide) rfl (ctC_7_setFeigned m sob78 (p := i) (t := 0) (v := ((x : Nat) : Int)) (by omega) (by decide)) (by decide) rfl rfl rfl (Nat.le_of_ble_eq_true rfl) (fun μ21 hq22 => ?_)
        have e_μ21 := hq22
        have hS1 : ST m 78 (gamS (ν.1 17) i j x y0) μ21 := by
          have q := ST.rf hT.2.1.S
          rw [wN_17] at q
          rw [← gamS_x (x := x0) hij, e_μ21]
          exact q.st (by omega) (by omega) (ri_fei (t := 0) (by omega) (by decide)) _
        have hT1 := hT.mv (by omega) (by omega) hij hS1 (by omega) hy0 h.B.now
        refine aw_aload_n hO dX6_play_83 rfl rfl ?_
        refine gC_X6_33_77 hO dX6_play_84 rfl ?_
        refine aw_aload_n hO dX6_play_87 rfl rfl ?_
        refine gC_X6_12_77 hO dX6_play_88 rfl ?_
        refine aw_iconst hO dX6_play_91 rfl ?_
        refine aw_iload_n hO dX6_play_92 rfl rfl ?_
        refine aw_ishl hO dX6_play_93 rfl ?_
        refine aw_callVV (as := [vR 78, vI (bShl 1 ((i : Nat) : Int))]) (st := []) hO dX6_play_94 rfl (lw_t4 164 rfl rfl) kX3_weigh (T := TX3) rfl (by decide) rfl (cJ_weigh hT1.2.1 (b := (bShl 1 ((i : Nat) : Int)))) (by decide) rfl rfl rfl (Nat.le_of_ble_eq_true rfl) (fun μ24 hq25 => ?_)
        have hF3 := hq25.1
        have hA3 : ∀ q, μ24.1 75 q = if q < (ν.1 0 25).toNat ∧ hasB (bShl 1 ((i : Nat) : Int)) q = true then appealM (wN ν (gamS (ν.1 17) i j x y0)) q else μ21.1 75 q := hq25.2
        have nob : ∀ o, o < 6 → o ≠ i → ¬ (o < (ν.1 0 25).toNat ∧ hasB (bShl 1 ((i : Nat) : Int)) o = true) := fun o ho hoj q => by have q2 := q.2; rw [hasB_shl (by omega) (by omega)] at q2; simp only [decide_eq_true_eq] at q2; omega
        have hT3 : TG μ ν i j (canT ν1) x y0 μ24 := ⟨hT1.1.tr (hF3.mono (fun _ _ e => jS_q e)), hT1.2.1.fj hF3, fun o ho h1 h2 hc => by rw [hA3 o, if_neg (nob o (by omega) h1)]; exact hT1.2.2 o ho h1 h2 hc⟩
        have hI3 : hasB (canT ν1) i = true → μ24.1 75 i = appealM (wN ν (gamS (ν.1 17) i j x y0)) i := fun q => by rw [hA3 i, if_pos ⟨show i < (ν.1 0 25).toNat by omega, by rw [hasB_shl (by omega) (by omega)]; simp⟩]
        have hW3 : ∀ z, μ24.1 80 z = m.1 80 z := fun z => by rw [hF3.1 80 z (by unfold jS; omega), hS1.1.1 80 z (by omega)]
        refine aw_iconst hO dX6_play_97 rfl ?_
        refine aw_istore (ls' := [some (vR 77), some (vR 27), some (vI ((i : Nat) : Int)), some (vI ((j : Nat) : Int)), some (vI (canT ν1)), some (vI (inT ν1)), some (vI ((x : Nat) : Int)), some (vI 0)]) hO dX6_play_98 rfl (Nat.le_of_ble_eq_true rfl) rfl rfl ?_
        refine aw_lsq (ls' := [some (vR 77), some (vR 27), some (vI ((i : Nat) : Int)), some (vI ((j : Nat) : Int)), some (vI (canT ν1)), some (vI (inT ν1)), some (vI ((x : Nat) : Int)), some (vI ((0 : Nat) : Int))]) rfl ?_
        refine inn x (by omega) (fun y0 m hy0 hT hW => ?_) 4 0 y0 μ24 (by omega) hy0 hT3 hI3 (fun x' y' hq => by rw [hW3]; exact hW x' y' (by omega) (by omega))
        refine aw_iinc (ls' := [some (vR 77), some (vR 27), some (vI ((i : Nat) : Int)), some (vI ((j : Nat) : Int)), some (vI (canT ν1)), some (vI (inT ν1)), some (vI (((x : Nat) : Int) + 1)), none]) hO dX6_play_160 rfl rfl rfl rfl ?_
        refine aw_lsq (ls' := [some (vR 77), some (vR 27), some (vI ((i : Nat) : Int)), some (vI ((j : Nat) : Int)), some (vI (canT ν1)), some (vI (inT ν1)), some (vI (((x + 1) : Nat) : Int)), none]) rfl ?_
        refine aw_goto (tgt := 66) hO dX6_play_163 rfl ?_
        refine aw_lsq (ls' := [some (vR 77), some (vR 27), some (vI ((i : Nat) : Int)), some (vI ((j : Nat) : Int)), some (vI (canT ν1)), some (vI (inT ν1)), some (vI ((x + 1 : Nat) : Int)), none]) rfl ?_
        exact ih (x + 1) x y0 m (by omega) (by omega) hy0 hT hW
  refine aw_lsq (ls' := [some (vR 77), some (vR 27), some (vI ((i : Nat) : Int)), some (vI ((j : Nat) : Int)), some (vI (canT ν1)), some (vI (inT ν1)), some (vI ((0 : Nat) : Int)), none]) rfl ?_
  exact out 4 0 _ _ μ11 (by omega) f0 f1 hT0 (fun x' y' h1 _ => absurd h1 (Nat.not_lt_zero _))
theorem dX6_gain_0 : decode cX6_gain 0 = .ok (.aload_n 0, 1) := by decide +kernel
theorem dX6_gain_1 : decode cX6_gain 1 = .ok (.getfield 18, 3) := by decide +kernel
theorem dX6_gain_4 : decode cX6_gain 4 = .ok (.iconst 4, 1) := by decide +kernel
theorem dX6_gain_5 : decode cX6_gain 5 = .ok (.iload_n 3, 1) := by decide +kernel
theorem dX6_gain_6 : decode cX6_gain 6 = .ok (.imul, 1) := by decide +kernel
theorem dX6_gain_7 : decode cX6_gain 7 = .ok (.iload 4, 2) := by decide +kernel
theorem dX6_gain_9 : decode cX6_gain 9 = .ok (.iadd, 1) := by decide +kernel
theorem dX6_gain_10 : decode cX6_gain 10 = .ok (.iaload, 1) := by decide +kernel
theorem dX6_gain_11 : decode cX6_gain 11 = .ok (.iload_n 1, 1) := by decide +kernel
theorem dX6_gain_12 : decode cX6_gain 12 = .ok (.if_icmp .ne 8, 3) := by decide +kernel
theorem dX6_gain_15 : decode cX6_gain 15 = .ok (.bipush 6, 2) := by decide +kernel
theorem dX6_gain_17 : decode cX6_gain 17 = .ok (.goto 4, 3) := by decide +kernel
theorem dX6_gain_20 : decode cX6_gain 20 = .ok (.iconst 0, 1) := by decide +kernel
theorem dX6_gain_21 : decode cX6_gain 21 = .ok (.iload_n 2, 1) := by decide +kernel
theorem dX6_gain_22 : decode cX6_gain 22 = .ok (.isub, 1) := by decide +kernel
theorem dX6_gain_23 : decode cX6_gain 23 = .ok (.ireturn, 1) := by decide +kernel
set_option maxHeartbeats 4000000 in
set_option maxRecDepth 100000 in
theorem cJ_gain0 (μ : Mm) {pl f : Int} {x y : Nat} (hx : x < 4) (hy : y < 4) (hpl : InR pl) (hw : InR (μ.1 80 (4 * x + y))) : CtI PC 0 yX6_gain cX6_gain 5 (some .int) [vR 77, vI pl, vI f, vI ((x : Nat) : Int), vI ((y : Nat) : Int)] μ ((if μ.1 80 (4 * x + y) = pl then 6 else 0) - f) := by
  refine ct_intro [some (vR 77), some (vI pl), some (vI f), some (vI ((x : Nat) : Int)), some (vI ((y : Nat) : Int))] RX6 (by decide) rfl XCo rfl (Nat.le_of_ble_eq_true rfl) (fun K hO => ?_)
  refine aw_aload_n hO dX6_gain_0 rfl rfl ?_
  refine gC_X6_18_77 hO dX6_gain_1 rfl ?_
  refine aw_iconst hO dX6_gain_4 rfl ?_
  refine aw_iload_n hO dX6_gain_5 rfl rfl ?_
  refine aw_imul hO dX6_gain_6 rfl ?_
  refine aw_iload hO dX6_gain_7 rfl rfl ?_
  refine aw_iadd hO dX6_gain_9 rfl ?_
  refine aw_ialdn (N := 16) (i := (4 * x + y)) hO dX6_gain_10 rfl (by decide) rfl (by decide) (by omega) (by omega) ?_
  refine aw_iload_n hO dX6_gain_11 rfl rfl ?_
  refine aw_icmp_ne (tgt := 20) hO dX6_gain_12 rfl rfl hw hpl (fun c12 => ?_) (fun c12 => ?_)
  · refine aw_iconst hO dX6_gain_20 rfl ?_
    refine aw_iload_n hO dX6_gain_21 rfl rfl ?_
    refine aw_isub hO dX6_gain_22 rfl ?_
    refine aw_iret hO dX6_gain_23 ?_
    exact rI (by rw [if_neg c12])
  · refine aw_bipush hO dX6_gain_15 rfl (by decide) (by decide) ?_
    refine aw_goto (tgt := 21) hO dX6_gain_17 rfl ?_
    refine aw_iload_n hO dX6_gain_21 rfl rfl ?_
    refine aw_isub hO dX6_gain_22 rfl ?_
    refine aw_iret hO dX6_gain_23 ?_
    exact rI (by rw [if_pos c12])
theorem pkG_rng (ν : Mm) (i j : Nat) (x y : Int) : pkG ν i j x y = -1 ∨ (0 ≤ pkG ν i j x y ∧ pkG ν i j x y < ((ν.1 0 25).toNat : Int)) := pickM_rng _ _
theorem cJ_gain {μ ν : Mm} {i j x y : Nat} (hW : WN ν i j μ) (hn : ν.1 0 25 ≤ 6) (hi : i < 6) (hj : j < 6) (hx : x < 4) (hy : y < 4) : CtI PC 0 yX6_gain cX6_gain 5 (some .int) [vR 77, vI ((i : Nat) : Int), vI ((x : Nat) : Int), vI ((x : Nat) : Int), vI ((y : Nat) : Int)] μ (gamM ν i j x y 0) ∧ CtI PC 0 yX6_gain cX6_gain 5 (some .int) [vR 77, vI ((j : Nat) : Int), vI ((y : Nat) : Int), vI ((x : Nat) : Int), vI ((y : Nat) : Int)] μ (gamM ν i j x y 1) := by
  have hp := pkG_rng ν i j x y
  have h1 := cJ_gain0 μ (pl := (i : Int)) (f := (x : Int)) hx hy ⟨by omega, by omega⟩ (by rw [hW x y hx hy]; exact ⟨by omega, by omega⟩)
  have h2 := cJ_gain0 μ (pl := (j : Int)) (f := (y : Int)) hx hy ⟨by omega, by omega⟩ (by rw [hW x y hx hy]; exact ⟨by omega, by omega⟩)
  rw [hW x y hx hy] at h1 h2
  exact ⟨h1, h2⟩
theorem gamM_rngC (ν : Mm) (i j : Nat) {x y w : Int} (hx : 0 ≤ x ∧ x ≤ 3) (hy : 0 ≤ y ∧ y ≤ 3) : -3 ≤ gamM ν i j x y w ∧ gamM ν i j x y w ≤ 6 := by
  unfold gamM
  split <;> split <;> omega
theorem dX6_isRest_0 : decode cX6_isRest 0 = .ok (.aload_n 0, 1) := by decide +kernel
theorem dX6_isRest_1 : decode cX6_isRest 1 = .ok (.iload_n 1, 1) := by decide +kernel
theorem dX6_isRest_2 : decode cX6_isRest 2 = .ok (.iload_n 3, 1) := by decide +kernel
theorem dX6_isRest_3 : decode cX6_isRest 3 = .ok (.iload_n 3, 1) := by decide +kernel
theorem dX6_isRest_4 : decode cX6_isRest 4 = .ok (.iload 4, 2) := by decide +kernel
theorem dX6_isRest_6 : decode cX6_isRest 6 = .ok (.invokevirtual 128, 3) := by decide +kernel
theorem dX6_isRest_9 : decode cX6_isRest 9 = .ok (.istore 5, 2) := by decide +kernel
theorem dX6_isRest_11 : decode cX6_isRest 11 = .ok (.aload_n 0, 1) := by decide +kernel
theorem dX6_isRest_12 : decode cX6_isRest 12 = .ok (.iload_n 2, 1) := by decide +kernel
theorem dX6_isRest_13 : decode cX6_isRest 13 = .ok (.iload 4, 2) := by decide +kernel
theorem dX6_isRest_15 : decode cX6_isRest 15 = .ok (.iload_n 3, 1) := by decide +kernel
theorem dX6_isRest_16 : decode cX6_isRest 16 = .ok (.iload 4, 2) := by decide +kernel
theorem dX6_isRest_18 : decode cX6_isRest 18 = .ok (.invokevirtual 128, 3) := by decide +kernel
theorem dX6_isRest_21 : decode cX6_isRest 21 = .ok (.istore 6, 2) := by decide +kernel
theorem dX6_isRest_23 : decode cX6_isRest 23 = .ok (.iconst 0, 1) := by decide +kernel
theorem dX6_isRest_24 : decode cX6_isRest 24 = .ok (.istore 7, 2) := by decide +kernel
theorem dX6_isRest_26 : decode cX6_isRest 26 = .ok (.iload 7, 2) := by decide +kernel
theorem dX6_isRest_28 : decode cX6_isRest 28 = .ok (.iconst 4, 1) := by decide +kernel
theorem dX6_isRest_29 : decode cX6_isRest 29 = .ok (.if_icmp .ge 42, 3) := by decide +kernel
theorem dX6_isRest_32 : decode cX6_isRest 32 = .ok (.aload_n 0, 1) := by decide +kernel
theorem dX6_isRest_33 : decode cX6_isRest 33 = .ok (.iload_n 1, 1) := by decide +kernel
theorem dX6_isRest_34 : decode cX6_isRest 34 = .ok (.iload 7, 2) := by decide +kernel
theorem dX6_isRest_36 : decode cX6_isRest 36 = .ok (.iload 7, 2) := by decide +kernel
theorem dX6_isRest_38 : decode cX6_isRest 38 = .ok (.iload 4, 2) := by decide +kernel
theorem dX6_isRest_40 : decode cX6_isRest 40 = .ok (.invokevirtual 128, 3) := by decide +kernel
theorem dX6_isRest_43 : decode cX6_isRest 43 = .ok (.iload 5, 2) := by decide +kernel
theorem dX6_isRest_45 : decode cX6_isRest 45 = .ok (.if_icmp .gt 18, 3) := by decide +kernel
theorem dX6_isRest_48 : decode cX6_isRest 48 = .ok (.aload_n 0, 1) := by decide +kernel
theorem dX6_isRest_49 : decode cX6_isRest 49 = .ok (.iload_n 2, 1) := by decide +kernel
theorem dX6_isRest_50 : decode cX6_isRest 50 = .ok (.iload 7, 2) := by decide +kernel
theorem dX6_isRest_52 : decode cX6_isRest 52 = .ok (.iload_n 3, 1) := by decide +kernel
theorem dX6_isRest_53 : decode cX6_isRest 53 = .ok (.iload 7, 2) := by decide +kernel
theorem dX6_isRest_55 : decode cX6_isRest 55 = .ok (.invokevirtual 128, 3) := by decide +kernel
theorem dX6_isRest_58 : decode cX6_isRest 58 = .ok (.iload 6, 2) := by decide +kernel
theorem dX6_isRest_60 : decode cX6_isRest 60 = .ok (.if_icmp .le 5, 3) := by decide +kernel
theorem dX6_isRest_63 : decode cX6_isRest 63 = .ok (.iconst 0, 1) := by decide +kernel
theorem dX6_isRest_64 : decode cX6_isRest 64 = .ok (.ireturn, 1) := by decide +kernel
theorem dX6_isRest_65 : decode cX6_isRest 65 = .ok (.iinc 7 1, 3) := by decide +kernel
theorem dX6_isRest_68 : decode cX6_isRest 68 = .ok (.goto (-42), 3) := by decide +kernel
theorem dX6_isRest_71 : decode cX6_isRest 71 = .ok (.iconst 1, 1) := by decide +kernel
theorem dX6_isRest_72 : decode cX6_isRest 72 = .ok (.ireturn, 1) := by decide +kernel
set_option maxHeartbeats 4000000 in
set_option maxRecDepth 100000 in
theorem cJ_isRest {μ ν : Mm} {i j x y : Nat} (hW : WN ν i j μ) (hn : ν.1 0 25 ≤ 6) (hi : i < 6) (hj : j < 6) (hx : x < 4) (hy : y < 4) : CtI PC 1 yX6_isRest cX6_isRest 8 (some .boolean) [vR 77, vI ((i : Nat) : Int), vI ((j : Nat) : Int), vI ((x : Nat) : Int), vI ((y : Nat) : Int)] μ (if rstB ν i j x y = true then 1 else 0) := by
  refine ct_intro [some (vR 77), some (vI ((i : Nat) : Int)), some (vI ((j : Nat) : Int)), some (vI ((x : Nat) : Int)), some (vI ((y : Nat) : Int)), none, none, none] RX6 (by decide) rfl XCo rfl (Nat.le_of_ble_eq_true rfl) (fun K hO => ?_)
  have g1 := gamM_rngC ν i j (x := x) (y := y) (w := 0) (by omega) (by omega)
  have g2 := gamM_rngC ν i j (x := x) (y := y) (w := 1) (by omega) (by omega)
  have lp : ∀ (c : Nat) (k : Nat), (k + c = 4) → (allB (rsK ν i j x y) k = true) → AW K 26 [some (vR 77), some (vI ((i : Nat) : Int)), some (vI ((j : Nat) : Int)), some (vI ((x : Nat) : Int)), some (vI ((y : Nat) : Int)), some (vI (gamM ν i j x y 0)), some (vI (gamM ν i j x y 1)), some (vI ((k : Nat) : Int))] [] μ := by
    intro c
    induction c with
    | zero =>
      intro k hk hb
      refine aw_iload hO dX6_isRest_26 rfl rfl ?_
      refine aw_iconst hO dX6_isRest_28 rfl ?_
      refine aw_icmp_ge (tgt := 71) hO dX6_isRest_29 rfl rfl (inRn (by omega)) (inRlit _) (fun c29 => ?_) (fun c29 => ?_)
      · refine aw_iconst hO dX6_isRest_71 rfl ?_
        refine aw_zret hO dX6_isRest_72 (Or.inr rfl) ?_
        exact rI (by rw [if_pos (show rstB ν i j x y = true by unfold rstB; rw [show 4 = k by omega]; exact hb)])
      · exact absurd c29 (by omega)
    | succ c ih =>
      intro k hk hb
      have g3 := gamM_rngC ν i j (x := k) (y := y) (w := 0) (by omega) (by omega)
      have g4 := gamM_rngC ν i j (x := x) (y := k) (w := 1) (by omega) (by omega)
      refine aw_iload hO dX6_isRest_26 rfl rfl ?_
      refine aw_iconst hO dX6_isRest_28 rfl ?_
      refine aw_icmp_ge (tgt := 71) hO dX6_isRest_29 rfl rfl (inRn (by omega)) (inRlit _) (fun c29 => ?_) (fun c29 => ?_)
      · exact absurd c29 (by omega)
      · refine aw_aload_n hO dX6_isRest_32 rfl rfl ?_
        refine aw_iload_n hO dX6_isRest_33 rfl rfl ?_
        refine aw_iload hO dX6_isRest_34 rfl rfl ?_
        refine aw_iload hO dX6_isRest_36 rfl rfl ?_
        refine aw_iload hO dX6_isRest_38 rfl rfl ?_
        refine aw_callVI (as := [vI ((i : Nat) : Int), vI ((k : Nat) : Int), vI ((k : Nat) : Int), vI ((y : Nat) : Int)]) (st := []) hO dX6_isRest_40 rfl (lw_t5 53 rfl rfl) kX6_gain (T := TX6) rfl (by decide) rfl ((cJ_gain hW hn (x := k) (y := y) (by omega) (by omega) (by omega) (by omega)).1) (by decide) rfl rfl rfl (Nat.le_of_ble_eq_true rfl) ?_
        refine aw_iload hO dX6_isRest_43 rfl rfl ?_
        refine aw_icmp_gt (tgt := 63) hO dX6_isRest_45 rfl rfl ⟨by omega, by omega⟩ ⟨by omega, by omega⟩ (fun c45 => ?_) (fun c45 => ?_)
        · refine aw_iconst hO dX6_isRest_63 rfl ?_
          refine aw_zret hO dX6_isRest_64 (Or.inl rfl) ?_
          exact rI (by rw [if_neg (show ¬ rstB ν i j x y = true by unfold rstB; rw [allB_no (k := k) (by unfold rsK; exact decide_eq_false (fun q => by have q1 := q.1; have q2 := q.2; omega)) 4 (by omega)]; simp)])
        · refine aw_aload_n hO dX6_isRest_48 rfl rfl ?_
          refine aw_iload_n hO dX6_isRest_49 rfl rfl ?_
          refine aw_iload hO dX6_isRest_50 rfl rfl ?_
          refine aw_iload_n hO dX6_isRest_52 rfl rfl ?_
          refine aw_iload hO dX6_isRest_53 rfl rfl ?_
          refine aw_callVI (as := [vI ((j : Nat) : Int), vI ((k : Nat) : Int), vI ((x : Nat) : Int), vI ((k : Nat) : Int)]) (st := []) hO dX6_isRest_55 rfl (lw_t5 53 rfl rfl) kX6_gain (T := TX6) rfl (by decide) rfl ((cJ_gain hW hn (x := x) (y := k) (by omega) (by omega) (by omega) (by omega)).2) (by decide) rfl rfl rfl (Nat.le_of_ble_eq_true rfl) ?_
          refine aw_iload hO dX6_isRest_58 rfl rfl ?_
          refine aw_icmp_le (tgt := 65) hO dX6_isRest_60 rfl rfl ⟨by omega, by omega⟩ ⟨by omega, by omega⟩ (fun c60 => ?_) (fun c60 => ?_)
          · refine aw_iinc (ls' := [some (vR 77), some (vI ((i : Nat) : Int)), some (vI ((j : Nat) : Int)), some (vI ((x : Nat) : Int)), some (vI ((y : Nat) : Int)), some (vI (gamM ν i j x y 0)), some (vI (gamM ν i j x y 1)), some (vI (((k : Nat) : Int) + 1))]) hO dX6_isRest_65 rfl rfl rfl rfl ?_
            refine aw_lsq (ls' := [some (vR 77), some (vI ((i : Nat) : Int)), some (vI ((j : Nat) : Int)), some (vI ((x : Nat) : Int)), some (vI ((y : Nat) : Int)), some (vI (gamM ν i j x y 0)), some (vI (gamM ν i j x y 1)), some (vI (((k + 1) : Nat) : Int))]) rfl ?_
            refine aw_goto (tgt := 26) hO dX6_isRest_68 rfl ?_
            refine aw_lsq (ls' := [some (vR 77), some (vI ((i : Nat) : Int)), some (vI ((j : Nat) : Int)), some (vI ((x : Nat) : Int)), some (vI ((y : Nat) : Int)), some (vI (gamM ν i j x y 0)), some (vI (gamM ν i j x y 1)), some (vI (((k + 1) : Nat) : Int))]) rfl ?_
            exact ih (k + 1) (by omega) (allB_t hb (by unfold rsK; exact decide_eq_true ⟨c45, c60⟩))
          · refine aw_iconst hO dX6_isRest_63 rfl ?_
            refine aw_zret hO dX6_isRest_64 (Or.inl rfl) ?_
            exact rI (by rw [if_neg (show ¬ rstB ν i j x y = true by unfold rstB; rw [allB_no (k := k) (by unfold rsK; exact decide_eq_false (fun q => by have q1 := q.1; have q2 := q.2; omega)) 4 (by omega)]; simp)])
  refine aw_aload_n hO dX6_isRest_0 rfl rfl ?_
  refine aw_iload_n hO dX6_isRest_1 rfl rfl ?_
  refine aw_iload_n hO dX6_isRest_2 rfl rfl ?_
  refine aw_iload_n hO dX6_isRest_3 rfl rfl ?_
  refine aw_iload hO dX6_isRest_4 rfl rfl ?_
  refine aw_callVI (as := [vI ((i : Nat) : Int), vI ((x : Nat) : Int), vI ((x : Nat) : Int), vI ((y : Nat) : Int)]) (st := []) hO dX6_isRest_6 rfl (lw_t5 53 rfl rfl) kX6_gain (T := TX6) rfl (by decide) rfl ((cJ_gain hW hn (x := x) (y := y) (by omega) (by omega) (by omega) (by omega)).1) (by decide) rfl rfl rfl (Nat.le_of_ble_eq_true rfl) ?_
  refine aw_istore (ls' := [some (vR 77), some (vI ((i : Nat) : Int)), some (vI ((j : Nat) : Int)), some (vI ((x : Nat) : Int)), some (vI ((y : Nat) : Int)), some (vI (gamM ν i j x y 0)), none, none]) hO dX6_isRest_9 rfl (Nat.le_of_ble_eq_true rfl) rfl rfl ?_
  refine aw_aload_n hO dX6_isRest_11 rfl rfl ?_
  refine aw_iload_n hO dX6_isRest_12 rfl rfl ?_
  refine aw_iload hO dX6_isRest_13 rfl rfl ?_
  refine aw_iload_n hO dX6_isRest_15 rfl rfl ?_
  refine aw_iload hO dX6_isRest_16 rfl rfl ?_
  refine aw_callVI (as := [vI ((j : Nat) : Int), vI ((y : Nat) : Int), vI ((x : Nat) : Int), vI ((y : Nat) : Int)]) (st := []) hO dX6_isRest_18 rfl (lw_t5 53 rfl rfl) kX6_gain (T := TX6) rfl (by decide) rfl ((cJ_gain hW hn (x := x) (y := y) (by omega) (by omega) (by omega) (by omega)).2) (by decide) rfl rfl rfl (Nat.le_of_ble_eq_true rfl) ?_
  refine aw_istore (ls' := [some (vR 77), some (vI ((i : Nat) : Int)), some (vI ((j : Nat) : Int)), some (vI ((x : Nat) : Int)), some (vI ((y : Nat) : Int)), some (vI (gamM ν i j x y 0)), some (vI (gamM ν i j x y 1)), none]) hO dX6_isRest_21 rfl (Nat.le_of_ble_eq_true rfl) rfl rfl ?_
  refine aw_iconst hO dX6_isRest_23 rfl ?_
  refine aw_istore (ls' := [some (vR 77), some (vI ((i : Nat) : Int)), some (vI ((j : Nat) : Int)), some (vI ((x : Nat) : Int)), some (vI ((y : Nat) : Int)), some (vI (gamM ν i j x y 0)), some (vI (gamM ν i j x y 1)), some (vI 0)]) hO dX6_isRest_24 rfl (Nat.le_of_ble_eq_true rfl) rfl rfl ?_
  refine aw_lsq (ls' := [some (vR 77), some (vI ((i : Nat) : Int)), some (vI ((j : Nat) : Int)), some (vI ((x : Nat) : Int)), some (vI ((y : Nat) : Int)), some (vI (gamM ν i j x y 0)), some (vI (gamM ν i j x y 1)), some (vI ((0 : Nat) : Int))]) rfl ?_
  exact lp 4 0 rfl rfl
