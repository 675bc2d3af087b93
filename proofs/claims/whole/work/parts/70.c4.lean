/-! ## the class: a year -/
def ri (i : Nat) : Nat := if i < 8 then [29, 30, 32, 33, 34, 35, 36, 31].getD i 0 else if i < 15 then i - 9 else if i < 27 then 6 + 2 * ((i - 15) % 6) + (i - 15) / 6 else i - 9
theorem ri_inj : ∀ i j : Fin 38, i.val ≠ 8 → j.val ≠ 8 → i.val ≠ j.val → ri i.val ≠ ri j.val := by decide
theorem ri_lt : ∀ i : Fin 38, i.val ≠ 8 → ri i.val < 37 := by decide
theorem ri_met {p : Nat} (hp : p < 6) : ri (9 + p) = p := by unfold ri; rw [if_neg (by omega), if_pos (by omega)]; omega
theorem ri_fei {p t : Nat} (hp : p < 6) (ht : t < 2) : ri (15 + 6 * t + p) = 6 + 2 * p + t := by unfold ri; rw [if_neg (by omega), if_neg (by omega), if_pos (by omega)]; omega
theorem ri_cha {p : Nat} (hp : p < 6) : ri (27 + p) = 18 + p := by unfold ri; rw [if_neg (by omega), if_neg (by omega), if_neg (by omega)]; omega
theorem ri_ask {t : Nat} : ri (33 + t) = 24 + t := by unfold ri; rw [if_neg (by omega), if_neg (by omega), if_neg (by omega)]; omega
theorem SR_iff {f g : Nat → Int} : SR f g ↔ ∀ i, i < 38 → i ≠ 8 → f i = g (ri i) := by
  constructor
  · intro h i hi h8
    by_cases h1 : i < 8
    · have hc : i = 0 ∨ i = 1 ∨ i = 2 ∨ i = 3 ∨ i = 4 ∨ i = 5 ∨ i = 6 ∨ i = 7 := by omega
      have hs := h.sc
      rcases hc with rfl | rfl | rfl | rfl | rfl | rfl | rfl | rfl
      · exact hs.1
      · exact hs.2.1
      · exact hs.2.2.1
      · exact hs.2.2.2.1
      · exact hs.2.2.2.2.1
      · exact hs.2.2.2.2.2.1
      · exact hs.2.2.2.2.2.2.1
      · exact hs.2.2.2.2.2.2.2
    · by_cases h2 : i < 15
      · obtain ⟨p, rfl⟩ : ∃ p, i = 9 + p := ⟨i - 9, by omega⟩
        rw [ri_met (by omega)]
        exact h.met (by omega)
      · by_cases h3 : i < 27
        · obtain ⟨p, t, hp, ht, rfl⟩ : ∃ p t, p < 6 ∧ t < 2 ∧ i = 15 + 6 * t + p := ⟨(i - 15) % 6, (i - 15) / 6, by omega, by omega, by omega⟩
          rw [ri_fei hp ht]
          exact h.fei hp ht
        · by_cases h4 : i < 33
          · obtain ⟨p, rfl⟩ : ∃ p, i = 27 + p := ⟨i - 27, by omega⟩
            rw [ri_cha (by omega)]
            exact h.cha (by omega)
          · obtain ⟨t, rfl⟩ : ∃ t, i = 33 + t := ⟨i - 33, by omega⟩
            rw [ri_ask]
            exact h.ask (by omega)
  · intro h
    refine ⟨⟨h 0 (by decide) (by decide), h 1 (by decide) (by decide), h 2 (by decide) (by decide), h 3 (by decide) (by decide), h 4 (by decide) (by decide), h 5 (by decide) (by decide), h 6 (by decide) (by decide), h 7 (by decide) (by decide)⟩, fun p hp => ?_, fun p t hp ht => ?_, fun p hp => ?_, fun t ht => ?_⟩
    · rw [h (9 + p) (by omega) (by omega), ri_met hp]
    · rw [h (15 + 6 * t + p) (by omega) (by omega), ri_fei hp ht]
    · rw [h (27 + p) (by omega) (by omega), ri_cha hp]
    · rw [h (33 + t) (by omega) (by omega), ri_ask]
theorem SR.up {f g : Nat → Int} (h : SR f g) {i j : Nat} (hi : i < 38) (h8 : i ≠ 8) (hj : ri i = j) (v : Int) : SR (fu f i v) (fu g j v) := SR_iff.mpr (fun k hk hk8 => by
  by_cases e : k = i
  · subst e
    rw [fu_eq, hj, fu_eq]
  · rw [fu_ne e, fu_ne (fun q => ri_inj ⟨k, hk⟩ ⟨i, hi⟩ hk8 h8 e (q.trans hj.symm)), SR_iff.mp h k hk hk8])
theorem SR.gs {f g g' : Nat → Int} (h : SR f g) (hg : ∀ i, i < 37 → g' i = g i) : SR f g' := SR_iff.mpr (fun k hk hk8 => by rw [hg _ (ri_lt ⟨k, hk⟩ hk8)]; exact SR_iff.mp h k hk hk8)
theorem SR.fs {f f' g : Nat → Int} (h : SR f g) (hf : ∀ i, i < 38 → i ≠ 8 → f' i = f i) : SR f' g := SR_iff.mpr (fun k hk hk8 => by rw [hf k hk hk8]; exact SR_iff.mp h k hk hk8)
theorem mst_fu {μ : Mm} {k i : Nat} {v : Int} : (mst μ k i v).1 k = fu (μ.1 k) i v := by rw [mst_row, mrow_at]
/-- a state that is being changed: the live part is G's, the log as it was -/
def ST (μ : Mm) (s : Nat) (G : Nat → Int) (m : Mm) : Prop := Fr (fun k _ => k = s + 1) μ m ∧ SR (m.1 (s + 1)) G ∧ ∀ i, i = 8 ∨ 38 ≤ i → m.1 (s + 1) i = μ.1 (s + 1) i
theorem ST.rf {μ : Mm} {s : Nat} {G : Nat → Int} (h : SR (μ.1 (s + 1)) G) : ST μ s G μ := ⟨Fr.rf, h, fun _ _ => rfl⟩
theorem ST.st {μ m : Mm} {s i j : Nat} {G : Nat → Int} (h : ST μ s G m) (hi : i < 38) (h8 : i ≠ 8) (hj : ri i = j) (v : Int) : ST μ s (fu G j v) (mst m (s + 1) i v) := ⟨h.1.st rfl v, by rw [mst_fu]; exact h.2.1.up hi h8 hj v, fun k hk => by rw [mst_ni (by omega)]; exact h.2.2 k hk⟩
theorem ST.gs {μ m : Mm} {s : Nat} {G G' : Nat → Int} (h : ST μ s G m) (hg : ∀ i, i < 37 → G' i = G i) : ST μ s G' m := ⟨h.1, h.2.1.gs hg, h.2.2⟩
theorem ST.j0 {μ m ν : Mm} {s : Nat} {G : Nat → Int} (hs : Sb s) (h : ST μ s G m) (h0 : JR0 μ ν) : JR0 m ν := ⟨h0.1, h0.2.fr (h.1.fn (fun i => by unfold Sb at hs; omega)) (h.1.fn (fun i => by unfold Sb at hs; omega))⟩
/-- the log -/
def LR (f g : Nat → Int) : Prop := ∃ L : Nat, f 8 = (L : Int) ∧ f 6 = (L : Int) ∧ g 37 = ((min L 60 : Nat) : Int) ∧ ∀ r, r < min L 60 → ((-1 ≤ g (38 + 3 * r) ∧ g (38 + 3 * r) ≤ 5) ∧ (0 ≤ g (38 + 3 * r + 1) ∧ g (38 + 3 * r + 1) ≤ 1) ∧ (0 ≤ g (38 + 3 * r + 2) ∧ g (38 + 3 * r + 2) ≤ 31)) ∧ f (38 + (L - min L 60 + r) % 60) = g (38 + 3 * r) + 1 + 8 * g (38 + 3 * r + 1) + 16 * g (38 + 3 * r + 2)
theorem LR.gs {f f' g g' : Nat → Int} (h : LR f g) (hf : ∀ i, i = 6 ∨ i = 8 ∨ (38 ≤ i ∧ i < 98) → f' i = f i) (hg : ∀ i, 37 ≤ i → g' i = g i) : LR f' g' := by
  obtain ⟨L, h1, h2, h3, h4⟩ := h
  refine ⟨L, by rw [hf 8 (by omega)]; exact h1, by rw [hf 6 (by omega)]; exact h2, by rw [hg 37 (by omega)]; exact h3, fun r hr => ?_⟩
  have := h4 r hr
  rw [hf _ (by omega), hg _ (by omega), hg _ (by omega), hg _ (by omega)]
  exact this
theorem LR.add {f g f' g0 : Nat → Int} {ch br tm : Int} (h : LR f g) {L : Nat} (hL : f 8 = (L : Int)) (hc : -1 ≤ ch ∧ ch ≤ 5) (hb : 0 ≤ br ∧ br ≤ 1) (ht : 0 ≤ tm ∧ tm ≤ 31) (h8 : f' 8 = (L : Int) + 1) (h6 : f' 6 = (L : Int) + 1) (hr : f' (38 + L % 60) = ch + 1 + 8 * br + 16 * tm) (ho : ∀ i, 38 ≤ i → i < 98 → i ≠ 38 + L % 60 → f' i = f i) (hg : ∀ i, 37 ≤ i → g0 i = g i) : LR f' (addLog g0 ch br tm) := by
  obtain ⟨L', h1, h2, h3, h4⟩ := h
  have e : L' = L := by omega
  subst e
  have h37 := hg 37 (by omega)
  refine ⟨L' + 1, by rw [h8]; omega, by rw [h6]; omega, ?_, ?_⟩
  · unfold addLog
    rw [h37, h3]
    split
    · rw [fu_ne (by decide), fu_ne (by decide), fu_ne (by decide)]
      unfold shlF
      rw [if_neg (by omega), h37, h3]
      omega
    · rw [fu_eq]
      omega
  · intro r hr2
    unfold addLog
    rw [h37, h3]
    by_cases c : ((min L' 60 : Nat) : Int) = 60
    · rw [if_pos c]
      by_cases er : r = 59
      · subst er
        rw [fu_ne (by decide), fu_ne (by decide), fu_eq, fu_ne (by decide), fu_eq, fu_eq]
        rw [show 38 + (L' + 1 - min (L' + 1) 60 + 59) % 60 = 38 + L' % 60 by omega, hr]
        exact ⟨⟨hc, hb, ht⟩, rfl⟩
      · rw [fu_ne (by omega), fu_ne (by omega), fu_ne (by omega), fu_ne (by omega), fu_ne (by omega), fu_ne (by omega), fu_ne (by omega), fu_ne (by omega), fu_ne (by omega)]
        unfold shlF
        rw [if_pos (by omega), if_pos (by omega), if_pos (by omega), hg _ (by omega), hg _ (by omega), hg _ (by omega)]
        have := h4 (r + 1) (by omega)
        rw [ho _ (by omega) (by omega) (by omega)]
        rw [show 38 + (L' + 1 - min (L' + 1) 60 + r) % 60 = 38 + (L' - min L' 60 + (r + 1)) % 60 by omega, show 38 + 3 * r + 3 = 38 + 3 * (r + 1) by omega, show 38 + 3 * r + 1 + 3 = 38 + 3 * (r + 1) + 1 by omega, show 38 + 3 * r + 2 + 3 = 38 + 3 * (r + 1) + 2 by omega]
        exact this
    · rw [if_neg c]
      have hn : ((min L' 60 : Nat) : Int).toNat = L' := by omega
      rw [hn]
      by_cases er : r = L'
      · subst er
        rw [fu_ne (by omega), fu_ne (by omega), fu_ne (by omega), fu_eq, fu_ne (by omega), fu_ne (by omega), fu_eq, fu_ne (by omega), fu_eq]
        rw [show 38 + (r + 1 - min (r + 1) 60 + r) % 60 = 38 + r % 60 by omega, hr]
        exact ⟨⟨hc, hb, ht⟩, rfl⟩
      · rw [fu_ne (by omega), fu_ne (by omega), fu_ne (by omega), fu_ne (by omega), fu_ne (by omega), fu_ne (by omega), fu_ne (by omega), fu_ne (by omega), fu_ne (by omega), fu_ne (by omega), fu_ne (by omega), fu_ne (by omega)]
        have := h4 r (by omega)
        rw [ho _ (by omega) (by omega) (by omega), hg _ (by omega), hg _ (by omega), hg _ (by omega)]
        rw [show 38 + (L' + 1 - min (L' + 1) 60 + r) % 60 = 38 + (L' - min L' 60 + r) % 60 by omega]
        exact this
theorem canT_zero {ν : Mm} (h : MB ν) : canT ν = 0 ↔ himM ν (ν.1 0 25).toNat = -1 := by
  have hn := h.np
  unfold himM
  rw [best_none]
  constructor
  · intro e p hp
    have := hasB_canT h (p := p) (by omega)
    rw [e, hasB_0 (by omega)] at this
    simpa [show (p : Int) < ν.1 0 25 by omega] using this.symm
  · intro e
    refine hasB_zero (bAnd_R _ _) (fun p hp => ?_)
    rw [hasB_canT h hp]
    by_cases c : (p : Int) < ν.1 0 25
    · rw [e p (by omega)]; simp
    · simp [c]
theorem dX7_crown_0 : decode cX7_crown 0 = .ok (.aload_n 0, 1) := by decide +kernel
theorem dX7_crown_1 : decode cX7_crown 1 = .ok (.getfield 11, 3) := by decide +kernel
theorem dX7_crown_4 : decode cX7_crown 4 = .ok (.bipush 27, 2) := by decide +kernel
theorem dX7_crown_6 : decode cX7_crown 6 = .ok (.iload_n 1, 1) := by decide +kernel
theorem dX7_crown_7 : decode cX7_crown 7 = .ok (.iadd, 1) := by decide +kernel
theorem dX7_crown_8 : decode cX7_crown 8 = .ok (.iaload, 1) := by decide +kernel
theorem dX7_crown_9 : decode cX7_crown 9 = .ok (.bipush 99, 2) := by decide +kernel
theorem dX7_crown_11 : decode cX7_crown 11 = .ok (.if_icmp .ge 16, 3) := by decide +kernel
theorem dX7_crown_14 : decode cX7_crown 14 = .ok (.aload_n 0, 1) := by decide +kernel
theorem dX7_crown_15 : decode cX7_crown 15 = .ok (.getfield 11, 3) := by decide +kernel
theorem dX7_crown_18 : decode cX7_crown 18 = .ok (.bipush 27, 2) := by decide +kernel
theorem dX7_crown_20 : decode cX7_crown 20 = .ok (.iload_n 1, 1) := by decide +kernel
theorem dX7_crown_21 : decode cX7_crown 21 = .ok (.iadd, 1) := by decide +kernel
theorem dX7_crown_22 : decode cX7_crown 22 = .ok (.dup2, 1) := by decide +kernel
theorem dX7_crown_23 : decode cX7_crown 23 = .ok (.iaload, 1) := by decide +kernel
theorem dX7_crown_24 : decode cX7_crown 24 = .ok (.iconst 1, 1) := by decide +kernel
theorem dX7_crown_25 : decode cX7_crown 25 = .ok (.iadd, 1) := by decide +kernel
theorem dX7_crown_26 : decode cX7_crown 26 = .ok (.iastore, 1) := by decide +kernel
theorem dX7_crown_27 : decode cX7_crown 27 = .ok (.aload_n 0, 1) := by decide +kernel
theorem dX7_crown_28 : decode cX7_crown 28 = .ok (.getfield 11, 3) := by decide +kernel
theorem dX7_crown_31 : decode cX7_crown 31 = .ok (.iload_n 2, 1) := by decide +kernel
theorem dX7_crown_32 : decode cX7_crown 32 = .ok (.ifCond .eq 7, 3) := by decide +kernel
theorem dX7_crown_35 : decode cX7_crown 35 = .ok (.iconst 4, 1) := by decide +kernel
theorem dX7_crown_36 : decode cX7_crown 36 = .ok (.goto 4, 3) := by decide +kernel
theorem dX7_crown_39 : decode cX7_crown 39 = .ok (.iconst 5, 1) := by decide +kernel
theorem dX7_crown_40 : decode cX7_crown 40 = .ok (.dup2, 1) := by decide +kernel
theorem dX7_crown_41 : decode cX7_crown 41 = .ok (.iaload, 1) := by decide +kernel
theorem dX7_crown_42 : decode cX7_crown 42 = .ok (.iconst 1, 1) := by decide +kernel
theorem dX7_crown_43 : decode cX7_crown 43 = .ok (.iadd, 1) := by decide +kernel
theorem dX7_crown_44 : decode cX7_crown 44 = .ok (.iastore, 1) := by decide +kernel
theorem dX7_crown_45 : decode cX7_crown 45 = .ok (.return_, 1) := by decide +kernel
set_option maxHeartbeats 4000000 in
set_option maxRecDepth 100000 in
theorem ctC_7_crown (μ : Mm) {s : Nat} (hs : Sob s) {p : Nat} {z : Int} (hp : p < 6) (hz : z = 0 ∨ z = 1) (hb : 0 ≤ μ.1 (s + 1) (27 + p) ∧ μ.1 (s + 1) (27 + p) ≤ 99) : CtV PC 0 yX7_crown cX7_crown 3 none [vR s, vI ((p : Nat) : Int), vI z] μ (fun m => m = mst (mst μ (s + 1) (27 + p) (min 99 (μ.1 (s + 1) (27 + p) + 1))) (s + 1) (if z = 1 then 4 else 5) (μ.1 (s + 1) (if z = 1 then 4 else 5) + 1)) := by
  refine ct_intro [some (vR s), some (vI ((p : Nat) : Int)), some (vI z)] RX7 (by decide) rfl XCo rfl (Nat.le_of_ble_eq_true rfl) (fun K hO => ?_)
  refine aw_aload_n hO dX7_crown_0 rfl rfl ?_
  refine aw_get (f := 0) hO dX7_crown_1 rfl okX7 (by decide) (lw_t1 149 rfl rfl) hs.1 hs.2.1 rfl rfl ?_
  refine aw_bipush hO dX7_crown_4 rfl (by decide) (by decide) ?_
  refine aw_iload_n hO dX7_crown_6 rfl rfl ?_
  refine aw_iadd hO dX7_crown_7 rfl ?_
  refine aw_ialdn (N := 98) (i := (27 + p)) hO dX7_crown_8 rfl hs.2.2.1 hs.2.2.2 (by decide) (by omega) (by omega) ?_
  refine aw_bipush hO dX7_crown_9 rfl (by decide) (by decide) ?_
  refine aw_icmp_ge (tgt := 27) hO dX7_crown_11 rfl rfl ⟨by omega, by omega⟩ (inRlit _) (fun c11 => ?_) (fun c11 => ?_)
  · refine aw_aload_n hO dX7_crown_27 rfl rfl ?_
    refine aw_get (f := 0) hO dX7_crown_28 rfl okX7 (by decide) (lw_t1 149 rfl rfl) hs.1 hs.2.1 rfl rfl ?_
    refine aw_iload_n hO dX7_crown_31 rfl rfl ?_
    refine aw_if_eq (tgt := 39) hO dX7_crown_32 rfl rfl ⟨by omega, by omega⟩ (fun c32 => ?_) (fun c32 => ?_)
    · refine aw_iconst hO dX7_crown_39 rfl ?_
      refine aw_dup2 hO dX7_crown_40 rfl rfl rfl ?_
      refine aw_ialdn (N := 98) (i := 5) hO dX7_crown_41 rfl hs.2.2.1 hs.2.2.2 (by decide) rfl (by decide) ?_
      refine aw_iconst hO dX7_crown_42 rfl ?_
      refine aw_iadd hO dX7_crown_43 rfl ?_
      refine aw_iastn (N := 98) (i := 5) hO dX7_crown_44 rfl hs.2.2.1 hs.2.2.2 (by decide) rfl (by decide) ?_
      refine aw_mm (fun μ1 e_μ1 => ?_)
      refine aw_vret hO dX7_crown_45 ?_
      exact ⟨rfl, by rw [mst_self (k := s + 1) (i := 27 + p) (by omega), e_μ1, if_neg (by omega)]⟩
    · refine aw_iconst hO dX7_crown_35 rfl ?_
      refine aw_goto (tgt := 40) hO dX7_crown_36 rfl ?_
      refine aw_dup2 hO dX7_crown_40 rfl rfl rfl ?_
      refine aw_ialdn (N := 98) (i := 4) hO dX7_crown_41 rfl hs.2.2.1 hs.2.2.2 (by decide) rfl (by decide) ?_
      refine aw_iconst hO dX7_crown_42 rfl ?_
      refine aw_iadd hO dX7_crown_43 rfl ?_
      refine aw_iastn (N := 98) (i := 4) hO dX7_crown_44 rfl hs.2.2.1 hs.2.2.2 (by decide) rfl (by decide) ?_
      refine aw_mm (fun μ2 e_μ2 => ?_)
      refine aw_vret hO dX7_crown_45 ?_
      exact ⟨rfl, by rw [mst_self (k := s + 1) (i := 27 + p) (by omega), e_μ2, if_pos (by omega)]⟩
  · refine aw_aload_n hO dX7_crown_14 rfl rfl ?_
    refine aw_get (f := 0) hO dX7_crown_15 rfl okX7 (by decide) (lw_t1 149 rfl rfl) hs.1 hs.2.1 rfl rfl ?_
    refine aw_bipush hO dX7_crown_18 rfl (by decide) (by decide) ?_
    refine aw_iload_n hO dX7_crown_20 rfl rfl ?_
    refine aw_iadd hO dX7_crown_21 rfl ?_
    refine aw_dup2 hO dX7_crown_22 rfl rfl rfl ?_
    refine aw_ialdn (N := 98) (i := (27 + p)) hO dX7_crown_23 rfl hs.2.2.1 hs.2.2.2 (by decide) (by omega) (by omega) ?_
    refine aw_iconst hO dX7_crown_24 rfl ?_
    refine aw_iadd hO dX7_crown_25 rfl ?_
    refine aw_iastn (N := 98) (i := (27 + p)) hO dX7_crown_26 rfl hs.2.2.1 hs.2.2.2 (by decide) (by omega) (by omega) ?_
    refine aw_mm (fun μ3 e_μ3 => ?_)
    refine aw_aload_n hO dX7_crown_27 rfl rfl ?_
    refine aw_get (f := 0) hO dX7_crown_28 rfl okX7 (by decide) (lw_t1 149 rfl rfl) hs.1 hs.2.1 rfl rfl ?_
    refine aw_iload_n hO dX7_crown_31 rfl rfl ?_
    refine aw_if_eq (tgt := 39) hO dX7_crown_32 rfl rfl ⟨by omega, by omega⟩ (fun c32 => ?_) (fun c32 => ?_)
    · refine aw_iconst hO dX7_crown_39 rfl ?_
      refine aw_dup2 hO dX7_crown_40 rfl rfl rfl ?_
      refine aw_ialdn (N := 98) (i := 5) hO dX7_crown_41 rfl hs.2.2.1 hs.2.2.2 (by decide) rfl (by decide) ?_
      refine aw_iconst hO dX7_crown_42 rfl ?_
      refine aw_iadd hO dX7_crown_43 rfl ?_
      refine aw_iastn (N := 98) (i := 5) hO dX7_crown_44 rfl hs.2.2.1 hs.2.2.2 (by decide) rfl (by decide) ?_
      refine aw_mm (fun μ4 e_μ4 => ?_)
      refine aw_vret hO dX7_crown_45 ?_
      exact ⟨rfl, by rw [e_μ4, e_μ3, if_neg (by omega), mst_ni (by omega), show min 99 (μ.1 (s + 1) (27 + p) + 1) = μ.1 (s + 1) (27 + p) + 1 by omega]⟩
    · refine aw_iconst hO dX7_crown_35 rfl ?_
      refine aw_goto (tgt := 40) hO dX7_crown_36 rfl ?_
      refine aw_dup2 hO dX7_crown_40 rfl rfl rfl ?_
      refine aw_ialdn (N := 98) (i := 4) hO dX7_crown_41 rfl hs.2.2.1 hs.2.2.2 (by decide) rfl (by decide) ?_
      refine aw_iconst hO dX7_crown_42 rfl ?_
      refine aw_iadd hO dX7_crown_43 rfl ?_
      refine aw_iastn (N := 98) (i := 4) hO dX7_crown_44 rfl hs.2.2.1 hs.2.2.2 (by decide) rfl (by decide) ?_
      refine aw_mm (fun μ5 e_μ5 => ?_)
      refine aw_vret hO dX7_crown_45 ?_
      exact ⟨rfl, by rw [e_μ5, e_μ3, if_pos (by omega), mst_ni (by omega), show min 99 (μ.1 (s + 1) (27 + p) + 1) = μ.1 (s + 1) (27 + p) + 1 by omega]⟩
theorem dX7_harm_0 : decode cX7_harm 0 = .ok (.aload_n 0, 1) := by decide +kernel
theorem dX7_harm_1 : decode cX7_harm 1 = .ok (.getfield 11, 3) := by decide +kernel
theorem dX7_harm_4 : decode cX7_harm 4 = .ok (.iconst 2, 1) := by decide +kernel
theorem dX7_harm_5 : decode cX7_harm 5 = .ok (.aload_n 0, 1) := by decide +kernel
theorem dX7_harm_6 : decode cX7_harm 6 = .ok (.getfield 11, 3) := by decide +kernel
theorem dX7_harm_9 : decode cX7_harm 9 = .ok (.iconst 2, 1) := by decide +kernel
theorem dX7_harm_10 : decode cX7_harm 10 = .ok (.iaload, 1) := by decide +kernel
theorem dX7_harm_11 : decode cX7_harm 11 = .ok (.iload_n 1, 1) := by decide +kernel
theorem dX7_harm_12 : decode cX7_harm 12 = .ok (.iadd, 1) := by decide +kernel
theorem dX7_harm_13 : decode cX7_harm 13 = .ok (.i2l, 1) := by decide +kernel
theorem dX7_harm_14 : decode cX7_harm 14 = .ok (.sipush 9999, 3) := by decide +kernel
theorem dX7_harm_17 : decode cX7_harm 17 = .ok (.invokestatic 49, 3) := by decide +kernel
theorem dX7_harm_20 : decode cX7_harm 20 = .ok (.iastore, 1) := by decide +kernel
theorem dX7_harm_21 : decode cX7_harm 21 = .ok (.return_, 1) := by decide +kernel
set_option maxHeartbeats 4000000 in
set_option maxRecDepth 100000 in
theorem ctC_7_harm (μ : Mm) {s : Nat} (hs : Sob s) {v : Int} (hb : 0 ≤ μ.1 (s + 1) 2 ∧ μ.1 (s + 1) 2 ≤ 9999) (hv : 0 ≤ v) (hv2 : v ≤ 99) : CtV PC 1 yX7_harm cX7_harm 2 none [vR s, vI v] μ (fun m => m = mst μ (s + 1) 2 (min 9999 (μ.1 (s + 1) 2 + v))) := by
  refine ct_intro [some (vR s), some (vI v)] RX7 (by decide) rfl XCo rfl (Nat.le_of_ble_eq_true rfl) (fun K hO => ?_)
  refine aw_aload_n hO dX7_harm_0 rfl rfl ?_
  refine aw_get (f := 0) hO dX7_harm_1 rfl okX7 (by decide) (lw_t1 149 rfl rfl) hs.1 hs.2.1 rfl rfl ?_
  refine aw_iconst hO dX7_harm_4 rfl ?_
  refine aw_aload_n hO dX7_harm_5 rfl rfl ?_
  refine aw_get (f := 0) hO dX7_harm_6 rfl okX7 (by decide) (lw_t1 149 rfl rfl) hs.1 hs.2.1 rfl rfl ?_
  refine aw_iconst hO dX7_harm_9 rfl ?_
  refine aw_ialdn (N := 98) (i := 2) hO dX7_harm_10 rfl hs.2.2.1 hs.2.2.2 (by decide) rfl (by decide) ?_
  refine aw_iload_n hO dX7_harm_11 rfl rfl ?_
  refine aw_iadd hO dX7_harm_12 rfl ?_
  refine aw_i2l hO dX7_harm_13 rfl ⟨by omega, by omega⟩ ?_
  refine aw_sipush hO dX7_harm_14 rfl (by decide) (by decide) ?_
  refine aw_callSNI (as := [vL ((μ.1 (s + 1) 2) + v), vI 9999]) (st := [vI 2, vR (s + 1)]) hO dX7_harm_17 rfl (lw_t4n 65 rfl rfl) kX11_within (ctC_within μ (v := ((μ.1 (s + 1) 2) + v)) (m := 9999) ⟨by omega, by omega⟩ (by omega) (by omega)) (by decide) rfl rfl rfl (Nat.le_of_ble_eq_true rfl) ?_
  refine aw_iastn (N := 98) (i := 2) hO dX7_harm_20 rfl hs.2.2.1 hs.2.2.2 (by decide) rfl (by decide) ?_
  refine aw_mm (fun μ1 e_μ1 => ?_)
  refine aw_vret hO dX7_harm_21 ?_
  exact ⟨rfl, by rw [e_μ1, show clampI 9999 (μ.1 (s + 1) 2 + v) = min 9999 (μ.1 (s + 1) 2 + v) by unfold clampI; omega]⟩
theorem dX7_startYear_0 : decode cX7_startYear 0 = .ok (.aload_n 0, 1) := by decide +kernel
theorem dX7_startYear_1 : decode cX7_startYear 1 = .ok (.getfield 11, 3) := by decide +kernel
theorem dX7_startYear_4 : decode cX7_startYear 4 = .ok (.iconst 3, 1) := by decide +kernel
theorem dX7_startYear_5 : decode cX7_startYear 5 = .ok (.aload_n 0, 1) := by decide +kernel
theorem dX7_startYear_6 : decode cX7_startYear 6 = .ok (.getfield 11, 3) := by decide +kernel
theorem dX7_startYear_9 : decode cX7_startYear 9 = .ok (.iconst 3, 1) := by decide +kernel
theorem dX7_startYear_10 : decode cX7_startYear 10 = .ok (.iaload, 1) := by decide +kernel
theorem dX7_startYear_11 : decode cX7_startYear 11 = .ok (.iconst 3, 1) := by decide +kernel
theorem dX7_startYear_12 : decode cX7_startYear 12 = .ok (.iadd, 1) := by decide +kernel
theorem dX7_startYear_13 : decode cX7_startYear 13 = .ok (.i2l, 1) := by decide +kernel
theorem dX7_startYear_14 : decode cX7_startYear 14 = .ok (.sipush 999, 3) := by decide +kernel
theorem dX7_startYear_17 : decode cX7_startYear 17 = .ok (.invokestatic 49, 3) := by decide +kernel
theorem dX7_startYear_20 : decode cX7_startYear 20 = .ok (.iastore, 1) := by decide +kernel
theorem dX7_startYear_21 : decode cX7_startYear 21 = .ok (.aload_n 0, 1) := by decide +kernel
theorem dX7_startYear_22 : decode cX7_startYear 22 = .ok (.getfield 11, 3) := by decide +kernel
theorem dX7_startYear_25 : decode cX7_startYear 25 = .ok (.bipush 6, 2) := by decide +kernel
theorem dX7_startYear_27 : decode cX7_startYear 27 = .ok (.dup2, 1) := by decide +kernel
theorem dX7_startYear_28 : decode cX7_startYear 28 = .ok (.iaload, 1) := by decide +kernel
theorem dX7_startYear_29 : decode cX7_startYear 29 = .ok (.iconst 1, 1) := by decide +kernel
theorem dX7_startYear_30 : decode cX7_startYear 30 = .ok (.iadd, 1) := by decide +kernel
theorem dX7_startYear_31 : decode cX7_startYear 31 = .ok (.iastore, 1) := by decide +kernel
theorem dX7_startYear_32 : decode cX7_startYear 32 = .ok (.aload_n 0, 1) := by decide +kernel
theorem dX7_startYear_33 : decode cX7_startYear 33 = .ok (.getfield 11, 3) := by decide +kernel
theorem dX7_startYear_36 : decode cX7_startYear 36 = .ok (.iconst 0, 1) := by decide +kernel
theorem dX7_startYear_37 : decode cX7_startYear 37 = .ok (.iconst 0, 1) := by decide +kernel
theorem dX7_startYear_38 : decode cX7_startYear 38 = .ok (.iastore, 1) := by decide +kernel
theorem dX7_startYear_39 : decode cX7_startYear 39 = .ok (.aload_n 0, 1) := by decide +kernel
theorem dX7_startYear_40 : decode cX7_startYear 40 = .ok (.getfield 11, 3) := by decide +kernel
theorem dX7_startYear_43 : decode cX7_startYear 43 = .ok (.iconst 1, 1) := by decide +kernel
theorem dX7_startYear_44 : decode cX7_startYear 44 = .ok (.iconst 0, 1) := by decide +kernel
theorem dX7_startYear_45 : decode cX7_startYear 45 = .ok (.iastore, 1) := by decide +kernel
theorem dX7_startYear_46 : decode cX7_startYear 46 = .ok (.aload_n 0, 1) := by decide +kernel
theorem dX7_startYear_47 : decode cX7_startYear 47 = .ok (.getfield 11, 3) := by decide +kernel
theorem dX7_startYear_50 : decode cX7_startYear 50 = .ok (.bipush 9, 2) := by decide +kernel
theorem dX7_startYear_52 : decode cX7_startYear 52 = .ok (.bipush 27, 2) := by decide +kernel
theorem dX7_startYear_54 : decode cX7_startYear 54 = .ok (.iconst 0, 1) := by decide +kernel
theorem dX7_startYear_55 : decode cX7_startYear 55 = .ok (.invokestatic 53, 3) := by decide +kernel
theorem dX7_startYear_58 : decode cX7_startYear 58 = .ok (.return_, 1) := by decide +kernel
set_option maxHeartbeats 4000000 in
set_option maxRecDepth 100000 in
theorem ctC_7_startYear (μ : Mm) {s : Nat} (hs : Sob s) (hb : 0 ≤ μ.1 (s + 1) 3 ∧ μ.1 (s + 1) 3 ≤ 999) : CtV PC 2 yX7_startYear cX7_startYear 1 none [vR s] μ (fun m => m = mfl (mst (mst (mst (mst μ (s + 1) 3 (min 999 (μ.1 (s + 1) 3 + 3))) (s + 1) 6 (μ.1 (s + 1) 6 + 1)) (s + 1) 0 0) (s + 1) 1 0) (s + 1) 9 27 0) := by
  refine ct_intro [some (vR s)] RX7 (by decide) rfl XCo rfl (Nat.le_of_ble_eq_true rfl) (fun K hO => ?_)
  refine aw_aload_n hO dX7_startYear_0 rfl rfl ?_
  refine aw_get (f := 0) hO dX7_startYear_1 rfl okX7 (by decide) (lw_t1 149 rfl rfl) hs.1 hs.2.1 rfl rfl ?_
  refine aw_iconst hO dX7_startYear_4 rfl ?_
  refine aw_aload_n hO dX7_startYear_5 rfl rfl ?_
  refine aw_get (f := 0) hO dX7_startYear_6 rfl okX7 (by decide) (lw_t1 149 rfl rfl) hs.1 hs.2.1 rfl rfl ?_
  refine aw_iconst hO dX7_startYear_9 rfl ?_
  refine aw_ialdn (N := 98) (i := 3) hO dX7_startYear_10 rfl hs.2.2.1 hs.2.2.2 (by decide) rfl (by decide) ?_
  refine aw_iconst hO dX7_startYear_11 rfl ?_
  refine aw_iadd hO dX7_startYear_12 rfl ?_
  refine aw_i2l hO dX7_startYear_13 rfl ⟨by omega, by omega⟩ ?_
  refine aw_sipush hO dX7_startYear_14 rfl (by decide) (by decide) ?_
  refine aw_callSNI (as := [vL ((μ.1 (s + 1) 3) + 3), vI 999]) (st := [vI 3, vR (s + 1)]) hO dX7_startYear_17 rfl (lw_t4n 65 rfl rfl) kX11_within (ctC_within μ (v := ((μ.1 (s + 1) 3) + 3)) (m := 999) ⟨by omega, by omega⟩ (by omega) (by omega)) (by decide) rfl rfl rfl (Nat.le_of_ble_eq_true rfl) ?_
  refine aw_iastn (N := 98) (i := 3) hO dX7_startYear_20 rfl hs.2.2.1 hs.2.2.2 (by decide) rfl (by decide) ?_
  refine aw_mm (fun μ1 e_μ1 => ?_)
  refine aw_aload_n hO dX7_startYear_21 rfl rfl ?_
  refine aw_get (f := 0) hO dX7_startYear_22 rfl okX7 (by decide) (lw_t1 149 rfl rfl) hs.1 hs.2.1 rfl rfl ?_
  refine aw_bipush hO dX7_startYear_25 rfl (by decide) (by decide) ?_
  refine aw_dup2 hO dX7_startYear_27 rfl rfl rfl ?_
  refine aw_ialdn (N := 98) (i := 6) hO dX7_startYear_28 rfl hs.2.2.1 hs.2.2.2 (by decide) rfl (by decide) ?_
  refine aw_iconst hO dX7_startYear_29 rfl ?_
  refine aw_iadd hO dX7_startYear_30 rfl ?_
  refine aw_iastn (N := 98) (i := 6) hO dX7_startYear_31 rfl hs.2.2.1 hs.2.2.2 (by decide) rfl (by decide) ?_
  refine aw_mm (fun μ2 e_μ2 => ?_)
  refine aw_aload_n hO dX7_startYear_32 rfl rfl ?_
  refine aw_get (f := 0) hO dX7_startYear_33 rfl okX7 (by decide) (lw_t1 149 rfl rfl) hs.1 hs.2.1 rfl rfl ?_
  refine aw_iconst hO dX7_startYear_36 rfl ?_
  refine aw_iconst hO dX7_startYear_37 rfl ?_
  refine aw_iastn (N := 98) (i := 0) hO dX7_startYear_38 rfl hs.2.2.1 hs.2.2.2 (by decide) rfl (by decide) ?_
  refine aw_mm (fun μ3 e_μ3 => ?_)
  refine aw_aload_n hO dX7_startYear_39 rfl rfl ?_
  refine aw_get (f := 0) hO dX7_startYear_40 rfl okX7 (by decide) (lw_t1 149 rfl rfl) hs.1 hs.2.1 rfl rfl ?_
  refine aw_iconst hO dX7_startYear_43 rfl ?_
  refine aw_iconst hO dX7_startYear_44 rfl ?_
  refine aw_iastn (N := 98) (i := 1) hO dX7_startYear_45 rfl hs.2.2.1 hs.2.2.2 (by decide) rfl (by decide) ?_
  refine aw_mm (fun μ4 e_μ4 => ?_)
  refine aw_aload_n hO dX7_startYear_46 rfl rfl ?_
  refine aw_get (f := 0) hO dX7_startYear_47 rfl okX7 (by decide) (lw_t1 149 rfl rfl) hs.1 hs.2.1 rfl rfl ?_
  refine aw_bipush hO dX7_startYear_50 rfl (by decide) (by decide) ?_
  refine aw_bipush hO dX7_startYear_52 rfl (by decide) (by decide) ?_
  refine aw_iconst hO dX7_startYear_54 rfl ?_
  refine aw_callSV (as := [vR (s + 1), vI 9, vI 27, vI 0]) (st := []) hO dX7_startYear_55 rfl (lw_t4 74 rfl rfl) kJ7_fill_fda19 (ctC_fillR μ4 (r := s + 1) (N := 98) (a := 9) (b := 27) (v := 0) hs.2.2.1 hs.2.2.2 (by decide) (by decide) (by decide)) (by decide) rfl rfl rfl (Nat.le_of_ble_eq_true rfl) (fun μ6 hq7 => ?_)
  have e_μ6 := hq7
  refine aw_vret hO dX7_startYear_58 ?_
  exact ⟨rfl, by rw [e_μ6, e_μ4, e_μ3, e_μ2, e_μ1, mst_ni (i := 3) (by decide), show clampI 999 (μ.1 (s + 1) 3 + 3) = min 999 (μ.1 (s + 1) 3 + 3) by unfold clampI; omega]⟩
theorem dX7_record_0 : decode cX7_record 0 = .ok (.iload_n 1, 1) := by decide +kernel
theorem dX7_record_1 : decode cX7_record 1 = .ok (.iconst 1, 1) := by decide +kernel
theorem dX7_record_2 : decode cX7_record 2 = .ok (.iadd, 1) := by decide +kernel
theorem dX7_record_3 : decode cX7_record 3 = .ok (.iload_n 2, 1) := by decide +kernel
theorem dX7_record_4 : decode cX7_record 4 = .ok (.ifCond .eq 8, 3) := by decide +kernel
theorem dX7_record_7 : decode cX7_record 7 = .ok (.bipush 8, 2) := by decide +kernel
theorem dX7_record_9 : decode cX7_record 9 = .ok (.goto 4, 3) := by decide +kernel
theorem dX7_record_12 : decode cX7_record 12 = .ok (.iconst 0, 1) := by decide +kernel
theorem dX7_record_13 : decode cX7_record 13 = .ok (.iadd, 1) := by decide +kernel
theorem dX7_record_14 : decode cX7_record 14 = .ok (.bipush 16, 2) := by decide +kernel
theorem dX7_record_16 : decode cX7_record 16 = .ok (.iload_n 3, 1) := by decide +kernel
theorem dX7_record_17 : decode cX7_record 17 = .ok (.imul, 1) := by decide +kernel
theorem dX7_record_18 : decode cX7_record 18 = .ok (.iadd, 1) := by decide +kernel
theorem dX7_record_19 : decode cX7_record 19 = .ok (.istore 4, 2) := by decide +kernel
theorem dX7_record_21 : decode cX7_record 21 = .ok (.aload_n 0, 1) := by decide +kernel
theorem dX7_record_22 : decode cX7_record 22 = .ok (.getfield 11, 3) := by decide +kernel
theorem dX7_record_25 : decode cX7_record 25 = .ok (.bipush 38, 2) := by decide +kernel
theorem dX7_record_27 : decode cX7_record 27 = .ok (.aload_n 0, 1) := by decide +kernel
theorem dX7_record_28 : decode cX7_record 28 = .ok (.getfield 11, 3) := by decide +kernel
theorem dX7_record_31 : decode cX7_record 31 = .ok (.bipush 8, 2) := by decide +kernel
theorem dX7_record_33 : decode cX7_record 33 = .ok (.iaload, 1) := by decide +kernel
theorem dX7_record_34 : decode cX7_record 34 = .ok (.bipush 60, 2) := by decide +kernel
theorem dX7_record_36 : decode cX7_record 36 = .ok (.irem, 1) := by decide +kernel
theorem dX7_record_37 : decode cX7_record 37 = .ok (.iadd, 1) := by decide +kernel
theorem dX7_record_38 : decode cX7_record 38 = .ok (.iload 4, 2) := by decide +kernel
theorem dX7_record_40 : decode cX7_record 40 = .ok (.iastore, 1) := by decide +kernel
theorem dX7_record_41 : decode cX7_record 41 = .ok (.aload_n 0, 1) := by decide +kernel
theorem dX7_record_42 : decode cX7_record 42 = .ok (.getfield 11, 3) := by decide +kernel
theorem dX7_record_45 : decode cX7_record 45 = .ok (.bipush 8, 2) := by decide +kernel
theorem dX7_record_47 : decode cX7_record 47 = .ok (.dup2, 1) := by decide +kernel
theorem dX7_record_48 : decode cX7_record 48 = .ok (.iaload, 1) := by decide +kernel
theorem dX7_record_49 : decode cX7_record 49 = .ok (.iconst 1, 1) := by decide +kernel
theorem dX7_record_50 : decode cX7_record 50 = .ok (.iadd, 1) := by decide +kernel
theorem dX7_record_51 : decode cX7_record 51 = .ok (.iastore, 1) := by decide +kernel
theorem dX7_record_52 : decode cX7_record 52 = .ok (.return_, 1) := by decide +kernel
set_option maxHeartbeats 4000000 in
set_option maxRecDepth 100000 in
theorem ctC_7_record (μ : Mm) {s : Nat} (hs : Sob s) {ch z tm : Int} {L : Nat} (hz : z = 0 ∨ z = 1) (hL : μ.1 (s + 1) 8 = (L : Int)) (hL2 : L ≤ 2000) : CtV PC 0 yX7_record cX7_record 5 none [vR s, vI ch, vI z, vI tm] μ (fun m => m = mst (mst μ (s + 1) (38 + L % 60) (ch + 1 + 8 * z + 16 * tm)) (s + 1) 8 ((L : Int) + 1)) := by
  refine ct_intro [some (vR s), some (vI ch), some (vI z), some (vI tm), none] RX7 (by decide) rfl XCo rfl (Nat.le_of_ble_eq_true rfl) (fun K hO => ?_)
  refine aw_iload_n hO dX7_record_0 rfl rfl ?_
  refine aw_iconst hO dX7_record_1 rfl ?_
  refine aw_iadd hO dX7_record_2 rfl ?_
  refine aw_iload_n hO dX7_record_3 rfl rfl ?_
  refine aw_if_eq (tgt := 12) hO dX7_record_4 rfl rfl ⟨by omega, by omega⟩ (fun c4 => ?_) (fun c4 => ?_)
  · refine aw_iconst hO dX7_record_12 rfl ?_
    refine aw_iadd hO dX7_record_13 rfl ?_
    refine aw_bipush hO dX7_record_14 rfl (by decide) (by decide) ?_
    refine aw_iload_n hO dX7_record_16 rfl rfl ?_
    refine aw_imul hO dX7_record_17 rfl ?_
    refine aw_iadd hO dX7_record_18 rfl ?_
    refine aw_istore (ls' := [some (vR s), some (vI ch), some (vI z), some (vI tm), some (vI (((ch + 1) + 0) + (16 * tm)))]) hO dX7_record_19 rfl (Nat.le_of_ble_eq_true rfl) rfl rfl ?_
    refine aw_aload_n hO dX7_record_21 rfl rfl ?_
    refine aw_get (f := 0) hO dX7_record_22 rfl okX7 (by decide) (lw_t1 149 rfl rfl) hs.1 hs.2.1 rfl rfl ?_
    refine aw_bipush hO dX7_record_25 rfl (by decide) (by decide) ?_
    refine aw_aload_n hO dX7_record_27 rfl rfl ?_
    refine aw_get (f := 0) hO dX7_record_28 rfl okX7 (by decide) (lw_t1 149 rfl rfl) hs.1 hs.2.1 rfl rfl ?_
    refine aw_bipush hO dX7_record_31 rfl (by decide) (by decide) ?_
    refine aw_ialdn (N := 98) (i := 8) hO dX7_record_33 rfl hs.2.2.1 hs.2.2.2 (by decide) rfl (by decide) ?_
    refine aw_cg hL ?_
    refine aw_bipush hO dX7_record_34 rfl (by decide) (by decide) ?_
    refine aw_irem hO dX7_record_36 rfl (by omega) (by omega) (by omega) (by omega) ?_
    refine aw_iadd hO dX7_record_37 rfl ?_
    refine aw_iload hO dX7_record_38 rfl rfl ?_
    refine aw_iastn (N := 98) (i := (38 + L % 60)) hO dX7_record_40 rfl hs.2.2.1 hs.2.2.2 (by decide) (by omega) (by omega) ?_
    refine aw_mm (fun μ1 e_μ1 => ?_)
    refine aw_aload_n hO dX7_record_41 rfl rfl ?_
    refine aw_get (f := 0) hO dX7_record_42 rfl okX7 (by decide) (lw_t1 149 rfl rfl) hs.1 hs.2.1 rfl rfl ?_
    refine aw_bipush hO dX7_record_45 rfl (by decide) (by decide) ?_
    refine aw_dup2 hO dX7_record_47 rfl rfl rfl ?_
    refine aw_ialdn (N := 98) (i := 8) hO dX7_record_48 rfl hs.2.2.1 hs.2.2.2 (by decide) rfl (by decide) ?_
    refine aw_cg (show μ1.1 (s + 1) 8 = (L : Int) by rw [e_μ1, mst_ni (by omega)]; exact hL) ?_
    refine aw_iconst hO dX7_record_49 rfl ?_
    refine aw_iadd hO dX7_record_50 rfl ?_
    refine aw_iastn (N := 98) (i := 8) hO dX7_record_51 rfl hs.2.2.1 hs.2.2.2 (by decide) rfl (by decide) ?_
    refine aw_mm (fun μ2 e_μ2 => ?_)
    refine aw_vret hO dX7_record_52 ?_
    exact ⟨rfl, by rw [e_μ2, e_μ1]; congr 2; omega⟩
  · refine aw_bipush hO dX7_record_7 rfl (by decide) (by decide) ?_
    refine aw_goto (tgt := 13) hO dX7_record_9 rfl ?_
    refine aw_iadd hO dX7_record_13 rfl ?_
    refine aw_bipush hO dX7_record_14 rfl (by decide) (by decide) ?_
    refine aw_iload_n hO dX7_record_16 rfl rfl ?_
    refine aw_imul hO dX7_record_17 rfl ?_
    refine aw_iadd hO dX7_record_18 rfl ?_
    refine aw_istore (ls' := [some (vR s), some (vI ch), some (vI z), some (vI tm), some (vI (((ch + 1) + 8) + (16 * tm)))]) hO dX7_record_19 rfl (Nat.le_of_ble_eq_true rfl) rfl rfl ?_
    refine aw_aload_n hO dX7_record_21 rfl rfl ?_
    refine aw_get (f := 0) hO dX7_record_22 rfl okX7 (by decide) (lw_t1 149 rfl rfl) hs.1 hs.2.1 rfl rfl ?_
    refine aw_bipush hO dX7_record_25 rfl (by decide) (by decide) ?_
    refine aw_aload_n hO dX7_record_27 rfl rfl ?_
    refine aw_get (f := 0) hO dX7_record_28 rfl okX7 (by decide) (lw_t1 149 rfl rfl) hs.1 hs.2.1 rfl rfl ?_
    refine aw_bipush hO dX7_record_31 rfl (by decide) (by decide) ?_
    refine aw_ialdn (N := 98) (i := 8) hO dX7_record_33 rfl hs.2.2.1 hs.2.2.2 (by decide) rfl (by decide) ?_
    refine aw_cg hL ?_
    refine aw_bipush hO dX7_record_34 rfl (by decide) (by decide) ?_
    refine aw_irem hO dX7_record_36 rfl (by omega) (by omega) (by omega) (by omega) ?_
    refine aw_iadd hO dX7_record_37 rfl ?_
    refine aw_iload hO dX7_record_38 rfl rfl ?_
    refine aw_iastn (N := 98) (i := (38 + L % 60)) hO dX7_record_40 rfl hs.2.2.1 hs.2.2.2 (by decide) (by omega) (by omega) ?_
    refine aw_mm (fun μ3 e_μ3 => ?_)
    refine aw_aload_n hO dX7_record_41 rfl rfl ?_
    refine aw_get (f := 0) hO dX7_record_42 rfl okX7 (by decide) (lw_t1 149 rfl rfl) hs.1 hs.2.1 rfl rfl ?_
    refine aw_bipush hO dX7_record_45 rfl (by decide) (by decide) ?_
    refine aw_dup2 hO dX7_record_47 rfl rfl rfl ?_
    refine aw_ialdn (N := 98) (i := 8) hO dX7_record_48 rfl hs.2.2.1 hs.2.2.2 (by decide) rfl (by decide) ?_
    refine aw_cg (show μ3.1 (s + 1) 8 = (L : Int) by rw [e_μ3, mst_ni (by omega)]; exact hL) ?_
    refine aw_iconst hO dX7_record_49 rfl ?_
    refine aw_iadd hO dX7_record_50 rfl ?_
    refine aw_iastn (N := 98) (i := 8) hO dX7_record_51 rfl hs.2.2.1 hs.2.2.2 (by decide) rfl (by decide) ?_
    refine aw_mm (fun μ4 e_μ4 => ?_)
    refine aw_vret hO dX7_record_52 ?_
    exact ⟨rfl, by rw [e_μ4, e_μ3]; congr 2; omega⟩
theorem dX7_logLength_0 : decode cX7_logLength 0 = .ok (.aload_n 0, 1) := by decide +kernel
theorem dX7_logLength_1 : decode cX7_logLength 1 = .ok (.getfield 11, 3) := by decide +kernel
theorem dX7_logLength_4 : decode cX7_logLength 4 = .ok (.bipush 8, 2) := by decide +kernel
theorem dX7_logLength_6 : decode cX7_logLength 6 = .ok (.iaload, 1) := by decide +kernel
theorem dX7_logLength_7 : decode cX7_logLength 7 = .ok (.bipush 60, 2) := by decide +kernel
theorem dX7_logLength_9 : decode cX7_logLength 9 = .ok (.if_icmp .ge 13, 3) := by decide +kernel
theorem dX7_logLength_12 : decode cX7_logLength 12 = .ok (.aload_n 0, 1) := by decide +kernel
theorem dX7_logLength_13 : decode cX7_logLength 13 = .ok (.getfield 11, 3) := by decide +kernel
theorem dX7_logLength_16 : decode cX7_logLength 16 = .ok (.bipush 8, 2) := by decide +kernel
theorem dX7_logLength_18 : decode cX7_logLength 18 = .ok (.iaload, 1) := by decide +kernel
theorem dX7_logLength_19 : decode cX7_logLength 19 = .ok (.goto 5, 3) := by decide +kernel
theorem dX7_logLength_22 : decode cX7_logLength 22 = .ok (.bipush 60, 2) := by decide +kernel
theorem dX7_logLength_24 : decode cX7_logLength 24 = .ok (.ireturn, 1) := by decide +kernel
set_option maxHeartbeats 4000000 in
set_option maxRecDepth 100000 in
theorem ctC_7_logLength (μ : Mm) {s : Nat} (hs : Sob s) {L : Nat} (hL : μ.1 (s + 1) 8 = (L : Int)) (hL2 : L ≤ 2000) : CtI PC 0 yX7_logLength cX7_logLength 1 (some .int) [vR s] μ ((min L 60 : Nat) : Int) := by
  refine ct_intro [some (vR s)] RX7 (by decide) rfl XCo rfl (Nat.le_of_ble_eq_true rfl) (fun K hO => ?_)
  refine aw_aload_n hO dX7_logLength_0 rfl rfl ?_
  refine aw_get (f := 0) hO dX7_logLength_1 rfl okX7 (by decide) (lw_t1 149 rfl rfl) hs.1 hs.2.1 rfl rfl ?_
  refine aw_bipush hO dX7_logLength_4 rfl (by decide) (by decide) ?_
  refine aw_ialdn (N := 98) (i := 8) hO dX7_logLength_6 rfl hs.2.2.1 hs.2.2.2 (by decide) rfl (by decide) ?_
  refine aw_cg hL ?_
  refine aw_bipush hO dX7_logLength_7 rfl (by decide) (by decide) ?_
  refine aw_icmp_ge (tgt := 22) hO dX7_logLength_9 rfl rfl (inRn (by omega)) (inRlit _) (fun c9 => ?_) (fun c9 => ?_)
  · refine aw_bipush hO dX7_logLength_22 rfl (by decide) (by decide) ?_
    refine aw_iret hO dX7_logLength_24 ?_
    exact rI (by omega)
  · refine aw_aload_n hO dX7_logLength_12 rfl rfl ?_
    refine aw_get (f := 0) hO dX7_logLength_13 rfl okX7 (by decide) (lw_t1 149 rfl rfl) hs.1 hs.2.1 rfl rfl ?_
    refine aw_bipush hO dX7_logLength_16 rfl (by decide) (by decide) ?_
    refine aw_ialdn (N := 98) (i := 8) hO dX7_logLength_18 rfl hs.2.2.1 hs.2.2.2 (by decide) rfl (by decide) ?_
    refine aw_cg hL ?_
    refine aw_goto (tgt := 24) hO dX7_logLength_19 rfl ?_
    refine aw_iret hO dX7_logLength_24 ?_
    exact rI (by omega)
theorem met_ofWF {l : Launch} {y : MethodName} {ws ws' : List Cond} {rm : Room} {Pc : Array Value → State → Prop} {Qc : Array Value → State → Outcome → State → Prop} {mc ms : Nat} {free : Addr → Prop} {cc : ByteArray} {maxL : Nat} {ret : Option FieldType}
    (hy : plainFor y = true) (hw : ws = Cond.code y cc maxL ret :: ws')
    (body : ∀ p e s m args below meth c s₁, BodyLoose p l y (headSpec ws rm) cc maxL ret e s m args below meth c s₁ → c.maxLocals = maxL → Pc args s →
      W p l e (headSpec ws rm).room s m args below meth c s.heap [] 0 0 (MQ below Qc args s mc ms free) (entryFrame m args maxL)) : Met l y ws rm Pc Qc mc ms free := by
  refine MetFree.of_bodySF (code := cc) (maxLocals := maxL) (ret := ret) hy ?_ ?_
  · intro args s m h hn
    obtain ⟨meth, c, h1, h2, h3, h4, h5, h6, -, -⟩ := Cond.code_spec hn (atoms_spec (ws := ws) h _ (by rw [hw]; exact List.mem_cons_self))
    exact ⟨meth, c, h1, h2, h3, h4, h5, h6⟩
  · intro p e s m args below meth c s₁ B hml hP _
    have hh0 : s₁.heap = s.heap := by rw [B.state]; rfl
    obtain ⟨t, a1, o, b1, b2, b3⟩ := body p e s m args below meth c s₁ B hml hP s₁ hh0 (Stand.of_body B)
    exact ⟨t, o, a1, b1, b2, ⟨b3.1, b3.2⟩⟩
theorem ct_introF {P : LPk} {d : Nat} {y : MethodName} {cc : ByteArray} {maxL : Nat} {ret : Option FieldType} {as : List AV} {μ : Mm} {Q : Option AV → Mm → Prop} (ls : List (Option AV)) (own : String) (hy : plainFor y = true) (ho : y.cls = own) (hX : XOk P) (hls : entL as maxL = ls) (hle : (ent as).length ≤ maxL)
    (body : ∀ K : KT, KOk P Q K cc own maxL d ret → AW K 0 ls [] μ) : Ct P d y cc maxL ret as μ Q := by
  intro l q ca D sz b
  refine met_ofWF (cc := cc) (maxL := maxL) (ret := ret) hy rfl ?_
  intro p e s m args below meth c s₁ B hml hv
  obtain ⟨rfl, hsz, hP, hK, hD, hXX, hbs, hNW⟩ := hv
  have hts0 := atoms_spec (ws := .code y cc maxL ret :: lw_g) B.pre
  have hown : s.vm.findClass y.cls = some m.cls := findClass_of_methodNamed B.named
  subst hsz
  subst ho
  subst hls
  have hw := body ((p, l, e, rmd d, s, m, (as.map (cv q)).toArray, below, meth, c), (q, ca, D, va_A (wld P q ca μ) s.heap.size, b, P, Q)) ⟨⟨B.exec, B.bytes, hml, hown, fun w hw => hts0 w (List.mem_cons_of_mem _ hw)⟩, ⟨hK, fun μ' => by rw [wld_A μ']; exact (wld_D μ' hD).self, fun a h => Or.inr h, rfl, B.returns, B.notSynchronized⟩, hX, hXX, hbs, fun a h => by
    rcases h with ⟨k, x, hk⟩ | h
    · exact hD.2 k _ hk
    · exact Nat.le_trans hbs h, rfl, rfl, hNW⟩
  rw [lg_entry_eq]
  exact hw s.heap [] _ hP va_S.rf (lvk_ent q as hle)
set_option maxRecDepth 100000 in
theorem pf_floorMod : plainFor yJ9_floorMod_7cf53 = true := by decide +kernel
theorem dJ9_floorMod_7cf53_0 : decode cJ9_floorMod_7cf53 0 = .ok (.iload_n 0, 1) := by decide +kernel
theorem dJ9_floorMod_7cf53_1 : decode cJ9_floorMod_7cf53 1 = .ok (.iload_n 1, 1) := by decide +kernel
theorem dJ9_floorMod_7cf53_2 : decode cJ9_floorMod_7cf53 2 = .ok (.irem, 1) := by decide +kernel
theorem dJ9_floorMod_7cf53_3 : decode cJ9_floorMod_7cf53 3 = .ok (.istore_n 2, 1) := by decide +kernel
theorem dJ9_floorMod_7cf53_4 : decode cJ9_floorMod_7cf53 4 = .ok (.iload_n 0, 1) := by decide +kernel
theorem dJ9_floorMod_7cf53_5 : decode cJ9_floorMod_7cf53 5 = .ok (.iload_n 1, 1) := by decide +kernel
theorem dJ9_floorMod_7cf53_6 : decode cJ9_floorMod_7cf53 6 = .ok (.ixor, 1) := by decide +kernel
theorem dJ9_floorMod_7cf53_7 : decode cJ9_floorMod_7cf53 7 = .ok (.ifCond .ge 11, 3) := by decide +kernel
theorem dJ9_floorMod_7cf53_10 : decode cJ9_floorMod_7cf53 10 = .ok (.iload_n 2, 1) := by decide +kernel
theorem dJ9_floorMod_7cf53_11 : decode cJ9_floorMod_7cf53 11 = .ok (.ifCond .eq 7, 3) := by decide +kernel
theorem dJ9_floorMod_7cf53_14 : decode cJ9_floorMod_7cf53 14 = .ok (.iload_n 2, 1) := by decide +kernel
theorem dJ9_floorMod_7cf53_15 : decode cJ9_floorMod_7cf53 15 = .ok (.iload_n 1, 1) := by decide +kernel
theorem dJ9_floorMod_7cf53_16 : decode cJ9_floorMod_7cf53 16 = .ok (.iadd, 1) := by decide +kernel
theorem dJ9_floorMod_7cf53_17 : decode cJ9_floorMod_7cf53 17 = .ok (.ireturn, 1) := by decide +kernel
theorem dJ9_floorMod_7cf53_18 : decode cJ9_floorMod_7cf53 18 = .ok (.iload_n 2, 1) := by decide +kernel
theorem dJ9_floorMod_7cf53_19 : decode cJ9_floorMod_7cf53 19 = .ok (.ireturn, 1) := by decide +kernel

theorem xor_nn {a b : Int} (h1 : 0 ≤ a) (h2 : a ≤ 2147483647) (h3 : 0 ≤ b) (h4 : b ≤ 2147483647) : 0 ≤ bXor a b := by
  have e : ∀ x : Int, 0 ≤ x → x ≤ 2147483647 → (iI x).toBitVec.msb = false := fun x hx hx2 => by
    have h := toInt_iI (a := x) ⟨by omega, hx2⟩
    rw [show (iI x).toInt = (iI x).toBitVec.toInt from rfl] at h
    rw [BitVec.msb_eq_toInt, h]
    simp; omega
  unfold bXor
  have h : (iI a ^^^ iI b).toBitVec.msb = false := by
    rw [Int32.toBitVec_xor, BitVec.msb_xor, e a h1 h2, e b h3 h4]
    rfl
  rw [show (iI a ^^^ iI b).toInt = (iI a ^^^ iI b).toBitVec.toInt from rfl]
  have h2 := BitVec.msb_eq_toInt (x := (iI a ^^^ iI b).toBitVec)
  rw [h] at h2
  have h3 := of_decide_eq_false h2.symm
  omega
set_option maxHeartbeats 4000000 in
set_option maxRecDepth 100000 in
theorem ctC_floorMod (μ : Mm) {a b : Int} (ha : 0 ≤ a) (ha2 : a ≤ 2000000) (hb : 0 < b) (hb2 : b ≤ 2000000) : CtI PC 0 yJ9_floorMod_7cf53 cJ9_floorMod_7cf53 3 (some .int) [vI a, vI b] μ (a % b) := by
  refine ct_introF [some (vI a), some (vI b), none] RJ9 pf_floorMod rfl XCo rfl (Nat.le_of_ble_eq_true rfl) (fun K hO => ?_)
  refine aw_iload_n hO dJ9_floorMod_7cf53_0 rfl rfl ?_
  refine aw_iload_n hO dJ9_floorMod_7cf53_1 rfl rfl ?_
  refine aw_irem hO dJ9_floorMod_7cf53_2 rfl (by omega) (by omega) (by omega) (by omega) ?_
  refine aw_istore_n (ls' := [some (vI a), some (vI b), some (vI (a % b))]) hO dJ9_floorMod_7cf53_3 rfl (Nat.le_of_ble_eq_true rfl) rfl rfl ?_
  refine aw_iload_n hO dJ9_floorMod_7cf53_4 rfl rfl ?_
  refine aw_iload_n hO dJ9_floorMod_7cf53_5 rfl rfl ?_
  refine aw_ixor hO dJ9_floorMod_7cf53_6 rfl ?_
  refine aw_if_ge (tgt := 18) hO dJ9_floorMod_7cf53_7 rfl rfl (bXor_R _ _) (fun c7 => ?_) (fun c7 => ?_)
  · skip
    refine aw_iload_n hO dJ9_floorMod_7cf53_18 rfl rfl ?_
    refine aw_iret hO dJ9_floorMod_7cf53_19 ?_
    exact rI rfl
  · exact absurd c7 (Int.not_lt.mpr (xor_nn ha (by omega) (by omega) (by omega)))
theorem dX7_logged_0 : decode cX7_logged 0 = .ok (.aload_n 0, 1) := by decide +kernel
theorem dX7_logged_1 : decode cX7_logged 1 = .ok (.getfield 11, 3) := by decide +kernel
theorem dX7_logged_4 : decode cX7_logged 4 = .ok (.bipush 38, 2) := by decide +kernel
theorem dX7_logged_6 : decode cX7_logged 6 = .ok (.aload_n 0, 1) := by decide +kernel
theorem dX7_logged_7 : decode cX7_logged 7 = .ok (.getfield 11, 3) := by decide +kernel
theorem dX7_logged_10 : decode cX7_logged 10 = .ok (.bipush 8, 2) := by decide +kernel
theorem dX7_logged_12 : decode cX7_logged 12 = .ok (.iaload, 1) := by decide +kernel
theorem dX7_logged_13 : decode cX7_logged 13 = .ok (.iconst 1, 1) := by decide +kernel
theorem dX7_logged_14 : decode cX7_logged 14 = .ok (.isub, 1) := by decide +kernel
theorem dX7_logged_15 : decode cX7_logged 15 = .ok (.iload_n 1, 1) := by decide +kernel
theorem dX7_logged_16 : decode cX7_logged 16 = .ok (.isub, 1) := by decide +kernel
theorem dX7_logged_17 : decode cX7_logged 17 = .ok (.bipush 60, 2) := by decide +kernel
theorem dX7_logged_19 : decode cX7_logged 19 = .ok (.invokestatic 59, 3) := by decide +kernel
theorem dX7_logged_22 : decode cX7_logged 22 = .ok (.iadd, 1) := by decide +kernel
theorem dX7_logged_23 : decode cX7_logged 23 = .ok (.iaload, 1) := by decide +kernel
theorem dX7_logged_24 : decode cX7_logged 24 = .ok (.ireturn, 1) := by decide +kernel
set_option maxHeartbeats 4000000 in
set_option maxRecDepth 100000 in
theorem ctC_7_logged (μ : Mm) {s : Nat} (hs : Sob s) {L i : Nat} (hL : μ.1 (s + 1) 8 = (L : Int)) (hL2 : L ≤ 2000) (hi : i < L) : CtI PC 1 yX7_logged cX7_logged 2 (some .int) [vR s, vI ((i : Nat) : Int)] μ (μ.1 (s + 1) (38 + (L - 1 - i) % 60)) := by
  refine ct_intro [some (vR s), some (vI ((i : Nat) : Int))] RX7 (by decide) rfl XCo rfl (Nat.le_of_ble_eq_true rfl) (fun K hO => ?_)
  refine aw_aload_n hO dX7_logged_0 rfl rfl ?_
  refine aw_get (f := 0) hO dX7_logged_1 rfl okX7 (by decide) (lw_t1 149 rfl rfl) hs.1 hs.2.1 rfl rfl ?_
  refine aw_bipush hO dX7_logged_4 rfl (by decide) (by decide) ?_
  refine aw_aload_n hO dX7_logged_6 rfl rfl ?_
  refine aw_get (f := 0) hO dX7_logged_7 rfl okX7 (by decide) (lw_t1 149 rfl rfl) hs.1 hs.2.1 rfl rfl ?_
  refine aw_bipush hO dX7_logged_10 rfl (by decide) (by decide) ?_
  refine aw_ialdn (N := 98) (i := 8) hO dX7_logged_12 rfl hs.2.2.1 hs.2.2.2 (by decide) rfl (by decide) ?_
  refine aw_cg hL ?_
  refine aw_iconst hO dX7_logged_13 rfl ?_
  refine aw_isub hO dX7_logged_14 rfl ?_
  refine aw_iload_n hO dX7_logged_15 rfl rfl ?_
  refine aw_isub hO dX7_logged_16 rfl ?_
  refine aw_bipush hO dX7_logged_17 rfl (by decide) (by decide) ?_
  refine aw_callSI (as := [vI ((((L : Nat) : Int) - 1) - ((i : Nat) : Int)), vI 60]) (st := [vI 38, vR (s + 1)]) hO dX7_logged_19 rfl (lw_t4 134 rfl rfl) kJ9_floorMod_7cf53 (ctC_floorMod μ (a := ((((L : Nat) : Int) - 1) - ((i : Nat) : Int))) (b := 60) (by omega) (by omega) (by omega) (by omega)) (by decide) rfl rfl rfl (Nat.le_of_ble_eq_true rfl) ?_
  refine aw_iadd hO dX7_logged_22 rfl ?_
  refine aw_ialdn (N := 98) (i := (38 + (L - 1 - i) % 60)) hO dX7_logged_23 rfl hs.2.2.1 hs.2.2.2 (by decide) (by omega) (by omega) ?_
  refine aw_iret hO dX7_logged_24 ?_
  exact rI rfl
theorem dX7_loggedMayor_0 : decode cX7_loggedMayor 0 = .ok (.aload_n 0, 1) := by decide +kernel
theorem dX7_loggedMayor_1 : decode cX7_loggedMayor 1 = .ok (.iload_n 1, 1) := by decide +kernel
theorem dX7_loggedMayor_2 : decode cX7_loggedMayor 2 = .ok (.invokevirtual 56, 3) := by decide +kernel
theorem dX7_loggedMayor_5 : decode cX7_loggedMayor 5 = .ok (.bipush 7, 2) := by decide +kernel
theorem dX7_loggedMayor_7 : decode cX7_loggedMayor 7 = .ok (.iand, 1) := by decide +kernel
theorem dX7_loggedMayor_8 : decode cX7_loggedMayor 8 = .ok (.iconst 1, 1) := by decide +kernel
theorem dX7_loggedMayor_9 : decode cX7_loggedMayor 9 = .ok (.isub, 1) := by decide +kernel
theorem dX7_loggedMayor_10 : decode cX7_loggedMayor 10 = .ok (.ireturn, 1) := by decide +kernel
set_option maxHeartbeats 4000000 in
set_option maxRecDepth 100000 in
theorem ctC_7_loggedMayor (μ : Mm) {s : Nat} (hs : Sob s) {L i : Nat} (hL : μ.1 (s + 1) 8 = (L : Int)) (hL2 : L ≤ 2000) (hi : i < L) : CtI PC 2 yX7_loggedMayor cX7_loggedMayor 2 (some .int) [vR s, vI ((i : Nat) : Int)] μ (bAnd (μ.1 (s + 1) (38 + (L - 1 - i) % 60)) 7 - 1) := by
  refine ct_intro [some (vR s), some (vI ((i : Nat) : Int))] RX7 (by decide) rfl XCo rfl (Nat.le_of_ble_eq_true rfl) (fun K hO => ?_)
  refine aw_aload_n hO dX7_loggedMayor_0 rfl rfl ?_
  refine aw_iload_n hO dX7_loggedMayor_1 rfl rfl ?_
  refine aw_callVI (as := [vI ((i : Nat) : Int)]) (st := []) hO dX7_loggedMayor_2 rfl (lw_t4 130 rfl rfl) kX7_logged (T := TX7) rfl hs.1 hs.2.1 (ctC_7_logged μ hs hL hL2 hi) (by decide) rfl rfl rfl (Nat.le_of_ble_eq_true rfl) ?_
  refine aw_bipush hO dX7_loggedMayor_5 rfl (by decide) (by decide) ?_
  refine aw_iand hO dX7_loggedMayor_7 rfl ?_
  refine aw_iconst hO dX7_loggedMayor_8 rfl ?_
  refine aw_isub hO dX7_loggedMayor_9 rfl ?_
  refine aw_iret hO dX7_loggedMayor_10 ?_
  exact rI rfl
theorem dX7_loggedRest_0 : decode cX7_loggedRest 0 = .ok (.aload_n 0, 1) := by decide +kernel
theorem dX7_loggedRest_1 : decode cX7_loggedRest 1 = .ok (.iload_n 1, 1) := by decide +kernel
theorem dX7_loggedRest_2 : decode cX7_loggedRest 2 = .ok (.invokevirtual 56, 3) := by decide +kernel
theorem dX7_loggedRest_5 : decode cX7_loggedRest 5 = .ok (.iconst 3, 1) := by decide +kernel
theorem dX7_loggedRest_6 : decode cX7_loggedRest 6 = .ok (.ishr, 1) := by decide +kernel
theorem dX7_loggedRest_7 : decode cX7_loggedRest 7 = .ok (.iconst 1, 1) := by decide +kernel
theorem dX7_loggedRest_8 : decode cX7_loggedRest 8 = .ok (.iand, 1) := by decide +kernel
theorem dX7_loggedRest_9 : decode cX7_loggedRest 9 = .ok (.ireturn, 1) := by decide +kernel
set_option maxHeartbeats 4000000 in
set_option maxRecDepth 100000 in
theorem ctC_7_loggedRest (μ : Mm) {s : Nat} (hs : Sob s) {L i : Nat} (hL : μ.1 (s + 1) 8 = (L : Int)) (hL2 : L ≤ 2000) (hi : i < L) : CtI PC 2 yX7_loggedRest cX7_loggedRest 2 (some .int) [vR s, vI ((i : Nat) : Int)] μ (bAnd (bShr (μ.1 (s + 1) (38 + (L - 1 - i) % 60)) 3) 1) := by
  refine ct_intro [some (vR s), some (vI ((i : Nat) : Int))] RX7 (by decide) rfl XCo rfl (Nat.le_of_ble_eq_true rfl) (fun K hO => ?_)
  refine aw_aload_n hO dX7_loggedRest_0 rfl rfl ?_
  refine aw_iload_n hO dX7_loggedRest_1 rfl rfl ?_
  refine aw_callVI (as := [vI ((i : Nat) : Int)]) (st := []) hO dX7_loggedRest_2 rfl (lw_t4 130 rfl rfl) kX7_logged (T := TX7) rfl hs.1 hs.2.1 (ctC_7_logged μ hs hL hL2 hi) (by decide) rfl rfl rfl (Nat.le_of_ble_eq_true rfl) ?_
  refine aw_iconst hO dX7_loggedRest_5 rfl ?_
  refine aw_ishr hO dX7_loggedRest_6 rfl ?_
  refine aw_iconst hO dX7_loggedRest_7 rfl ?_
  refine aw_iand hO dX7_loggedRest_8 rfl ?_
  refine aw_iret hO dX7_loggedRest_9 ?_
  exact rI rfl
theorem dX7_loggedTroubles_0 : decode cX7_loggedTroubles 0 = .ok (.aload_n 0, 1) := by decide +kernel
theorem dX7_loggedTroubles_1 : decode cX7_loggedTroubles 1 = .ok (.iload_n 1, 1) := by decide +kernel
theorem dX7_loggedTroubles_2 : decode cX7_loggedTroubles 2 = .ok (.invokevirtual 56, 3) := by decide +kernel
theorem dX7_loggedTroubles_5 : decode cX7_loggedTroubles 5 = .ok (.iconst 4, 1) := by decide +kernel
theorem dX7_loggedTroubles_6 : decode cX7_loggedTroubles 6 = .ok (.ishr, 1) := by decide +kernel
theorem dX7_loggedTroubles_7 : decode cX7_loggedTroubles 7 = .ok (.ireturn, 1) := by decide +kernel
set_option maxHeartbeats 4000000 in
set_option maxRecDepth 100000 in
theorem ctC_7_loggedTroubles (μ : Mm) {s : Nat} (hs : Sob s) {L i : Nat} (hL : μ.1 (s + 1) 8 = (L : Int)) (hL2 : L ≤ 2000) (hi : i < L) : CtI PC 2 yX7_loggedTroubles cX7_loggedTroubles 2 (some .int) [vR s, vI ((i : Nat) : Int)] μ (bShr (μ.1 (s + 1) (38 + (L - 1 - i) % 60)) 4) := by
  refine ct_intro [some (vR s), some (vI ((i : Nat) : Int))] RX7 (by decide) rfl XCo rfl (Nat.le_of_ble_eq_true rfl) (fun K hO => ?_)
  refine aw_aload_n hO dX7_loggedTroubles_0 rfl rfl ?_
  refine aw_iload_n hO dX7_loggedTroubles_1 rfl rfl ?_
  refine aw_callVI (as := [vI ((i : Nat) : Int)]) (st := []) hO dX7_loggedTroubles_2 rfl (lw_t4 130 rfl rfl) kX7_logged (T := TX7) rfl hs.1 hs.2.1 (ctC_7_logged μ hs hL hL2 hi) (by decide) rfl rfl rfl (Nat.le_of_ble_eq_true rfl) ?_
  refine aw_iconst hO dX7_loggedTroubles_5 rfl ?_
  refine aw_ishr hO dX7_loggedTroubles_6 rfl ?_
  refine aw_iret hO dX7_loggedTroubles_7 ?_
  exact rI rfl
theorem dX0_keep_0 : decode cX0_keep 0 = .ok (.aload_n 1, 1) := by decide +kernel
theorem dX0_keep_1 : decode cX0_keep 1 = .ok (.getfield 25, 3) := by decide +kernel
theorem dX0_keep_4 : decode cX0_keep 4 = .ok (.iconst 0, 1) := by decide +kernel
theorem dX0_keep_5 : decode cX0_keep 5 = .ok (.aload_n 0, 1) := by decide +kernel
theorem dX0_keep_6 : decode cX0_keep 6 = .ok (.getfield 13, 3) := by decide +kernel
theorem dX0_keep_9 : decode cX0_keep 9 = .ok (.aload_n 0, 1) := by decide +kernel
theorem dX0_keep_10 : decode cX0_keep 10 = .ok (.getfield 22, 3) := by decide +kernel
theorem dX0_keep_13 : decode cX0_keep 13 = .ok (.aaload, 1) := by decide +kernel
theorem dX0_keep_14 : decode cX0_keep 14 = .ok (.iconst 0, 1) := by decide +kernel
theorem dX0_keep_15 : decode cX0_keep 15 = .ok (.bipush 98, 2) := by decide +kernel
theorem dX0_keep_17 : decode cX0_keep 17 = .ok (.invokestatic 29, 3) := by decide +kernel
theorem dX0_keep_20 : decode cX0_keep 20 = .ok (.aload_n 0, 1) := by decide +kernel
theorem dX0_keep_21 : decode cX0_keep 21 = .ok (.aload_n 0, 1) := by decide +kernel
theorem dX0_keep_22 : decode cX0_keep 22 = .ok (.getfield 22, 3) := by decide +kernel
theorem dX0_keep_25 : decode cX0_keep 25 = .ok (.iconst 1, 1) := by decide +kernel
theorem dX0_keep_26 : decode cX0_keep 26 = .ok (.iadd, 1) := by decide +kernel
theorem dX0_keep_27 : decode cX0_keep 27 = .ok (.bipush 40, 2) := by decide +kernel
theorem dX0_keep_29 : decode cX0_keep 29 = .ok (.irem, 1) := by decide +kernel
theorem dX0_keep_30 : decode cX0_keep 30 = .ok (.putfield 22, 3) := by decide +kernel
theorem dX0_keep_33 : decode cX0_keep 33 = .ok (.aload_n 0, 1) := by decide +kernel
theorem dX0_keep_34 : decode cX0_keep 34 = .ok (.getfield 18, 3) := by decide +kernel
theorem dX0_keep_37 : decode cX0_keep 37 = .ok (.bipush 40, 2) := by decide +kernel
theorem dX0_keep_39 : decode cX0_keep 39 = .ok (.if_icmp .ge 13, 3) := by decide +kernel
theorem dX0_keep_42 : decode cX0_keep 42 = .ok (.aload_n 0, 1) := by decide +kernel
theorem dX0_keep_43 : decode cX0_keep 43 = .ok (.dup, 1) := by decide +kernel
theorem dX0_keep_44 : decode cX0_keep 44 = .ok (.getfield 18, 3) := by decide +kernel
theorem dX0_keep_47 : decode cX0_keep 47 = .ok (.iconst 1, 1) := by decide +kernel
theorem dX0_keep_48 : decode cX0_keep 48 = .ok (.iadd, 1) := by decide +kernel
theorem dX0_keep_49 : decode cX0_keep 49 = .ok (.putfield 18, 3) := by decide +kernel
theorem dX0_keep_52 : decode cX0_keep 52 = .ok (.return_, 1) := by decide +kernel
theorem row40 {n : Nat} (h : n < 40) : 33 + n < 86 ∧ layC (33 + n) = .inl (.int, 98) := by
  have : ∀ n : Fin 40, (match layC (33 + n.val) with
    | .inl (.int, 98) => true
    | _ => false) = true := by decide
  have h2 := this ⟨n, h⟩
  refine ⟨by omega, ?_⟩
  simp only at h2
  revert h2
  split
  · next e => intro _; exact e
  · intro q; cases q
set_option maxRecDepth 100000 in
theorem gC_X0_25_27 {Q : Option AV → Mm → Prop} {K : KT} {cc : ByteArray} {nL d : Nat} {ret : Option FieldType} {pc n : Nat} {ls : List (Option AV)} {st : List AV} {μ : Mm} (hO : KOk PC Q K cc RX0 nL d ret) (hd : decode cc pc = .ok (.getfield 25, 3)) (hn : pc + 3 = n) (kk : AW K n ls (vR 28 :: st) μ) : AW K pc ls (vR 27 :: st) μ := aw_getN (f := 0) hO hd hn okX7 (by decide) (lw_t1n 150 rfl rfl) (by decide) rfl rfl rfl kk
set_option maxRecDepth 100000 in
theorem gC_X0_13_31 {Q : Option AV → Mm → Prop} {K : KT} {cc : ByteArray} {nL d : Nat} {ret : Option FieldType} {pc n : Nat} {ls : List (Option AV)} {st : List AV} {μ : Mm} (hO : KOk PC Q K cc RX0 nL d ret) (hd : decode cc pc = .ok (.getfield 13, 3)) (hn : pc + 3 = n) (kk : AW K n ls (vR 32 :: st) μ) : AW K pc ls (vR 31 :: st) μ := aw_get (f := 0) hO hd hn okX0 (by decide) (lw_t1 166 rfl rfl) (by decide) rfl rfl rfl kk
set_option maxRecDepth 100000 in
theorem gC_X0_22_31 {Q : Option AV → Mm → Prop} {K : KT} {cc : ByteArray} {nL d : Nat} {ret : Option FieldType} {pc n : Nat} {ls : List (Option AV)} {st : List AV} {μ : Mm} (hO : KOk PC Q K cc RX0 nL d ret) (hd : decode cc pc = .ok (.getfield 22, 3)) (hn : pc + 3 = n) (kk : AW K n ls (vI (μ.1 31 2) :: st) μ) : AW K pc ls (vR 31 :: st) μ := aw_get (f := 2) hO hd hn okX0 (by decide) (lw_t1 169 rfl rfl) (by decide) rfl rfl rfl kk
set_option maxRecDepth 100000 in
theorem pC_X0_22_31 {Q : Option AV → Mm → Prop} {K : KT} {cc : ByteArray} {nL d : Nat} {ret : Option FieldType} {pc n : Nat} {ls : List (Option AV)} {st : List AV} {μ : Mm} {a : Int} (hO : KOk PC Q K cc RX0 nL d ret) (hd : decode cc pc = .ok (.putfield 22, 3)) (hn : pc + 3 = n) (kk : AW K n ls st (mst μ 31 2 a)) : AW K pc ls (vI a :: vR 31 :: st) μ := aw_put (f := 2) hO hd hn okX0 tyX0_ok nmX0 (by decide) (lw_t1 169 rfl rfl) rfl rfl rfl (by decide) rfl rfl kk
set_option maxRecDepth 100000 in
theorem gC_X0_18_31 {Q : Option AV → Mm → Prop} {K : KT} {cc : ByteArray} {nL d : Nat} {ret : Option FieldType} {pc n : Nat} {ls : List (Option AV)} {st : List AV} {μ : Mm} (hO : KOk PC Q K cc RX0 nL d ret) (hd : decode cc pc = .ok (.getfield 18, 3)) (hn : pc + 3 = n) (kk : AW K n ls (vI (μ.1 31 1) :: st) μ) : AW K pc ls (vR 31 :: st) μ := aw_get (f := 1) hO hd hn okX0 (by decide) (lw_t1 167 rfl rfl) (by decide) rfl rfl rfl kk
set_option maxRecDepth 100000 in
theorem pC_X0_18_31 {Q : Option AV → Mm → Prop} {K : KT} {cc : ByteArray} {nL d : Nat} {ret : Option FieldType} {pc n : Nat} {ls : List (Option AV)} {st : List AV} {μ : Mm} {a : Int} (hO : KOk PC Q K cc RX0 nL d ret) (hd : decode cc pc = .ok (.putfield 18, 3)) (hn : pc + 3 = n) (kk : AW K n ls st (mst μ 31 1 a)) : AW K pc ls (vI a :: vR 31 :: st) μ := aw_put (f := 1) hO hd hn okX0 tyX0_ok nmX0 (by decide) (lw_t1 167 rfl rfl) rfl rfl rfl (by decide) rfl rfl kk
set_option maxHeartbeats 4000000 in
set_option maxRecDepth 100000 in
theorem ctC_0_keep (μ : Mm) {n : Nat} (hn : μ.1 31 2 = (n : Int)) (hn2 : n < 40) (hh : 0 ≤ μ.1 31 1 ∧ μ.1 31 1 ≤ 40) : CtV PC 1 yX0_keep cX0_keep 2 none [vR 31, vR 27] μ (fun m => m = mst (mst (mcp μ (33 + n) 28 0 0 98) 31 2 ((n + 1) % 40 : Nat)) 31 1 (min 40 (μ.1 31 1 + 1))) := by
  refine ct_intro [some (vR 31), some (vR 27)] RX0 (by decide) rfl XCo rfl (Nat.le_of_ble_eq_true rfl) (fun K hO => ?_)
  refine aw_aload_n hO dX0_keep_0 rfl rfl ?_
  refine gC_X0_25_27 hO dX0_keep_1 rfl ?_
  refine aw_iconst hO dX0_keep_4 rfl ?_
  refine aw_aload_n hO dX0_keep_5 rfl rfl ?_
  refine gC_X0_13_31 hO dX0_keep_6 rfl ?_
  refine aw_aload_n hO dX0_keep_9 rfl rfl ?_
  refine gC_X0_22_31 hO dX0_keep_10 rfl ?_
  refine aw_cg hn ?_
  refine aw_aaldT (i := n) hO dX0_keep_13 rfl (by decide) rfl rfl (by decide) rfl (by omega) ?_
  refine aw_iconst hO dX0_keep_14 rfl ?_
  refine aw_bipush hO dX0_keep_15 rfl (by decide) (by decide) ?_
  refine aw_cpy (sp := 0) (dp := 0) (m := 98) hO dX0_keep_17 rfl (lw_t3 147 rfl rfl) cpw (by decide) rfl (row40 hn2).1 (row40 hn2).2 rfl (by decide) (by decide) rfl rfl rfl (by decide) (by decide) (by decide) rfl (Nat.le_of_ble_eq_true rfl) ?_
  refine aw_mm (fun μ1 e_μ1 => ?_)
  refine aw_aload_n hO dX0_keep_20 rfl rfl ?_
  refine aw_aload_n hO dX0_keep_21 rfl rfl ?_
  refine gC_X0_22_31 hO dX0_keep_22 rfl ?_
  refine aw_cg (show μ1.1 31 2 = (n : Int) by rw [e_μ1, mcp_nk (by omega)]; exact hn) ?_
  refine aw_iconst hO dX0_keep_25 rfl ?_
  refine aw_iadd hO dX0_keep_26 rfl ?_
  refine aw_bipush hO dX0_keep_27 rfl (by decide) (by decide) ?_
  refine aw_irem hO dX0_keep_29 rfl (by omega) (by omega) (by omega) (by omega) ?_
  refine pC_X0_22_31 hO dX0_keep_30 rfl ?_
  refine aw_mm (fun μ2 e_μ2 => ?_)
  refine aw_aload_n hO dX0_keep_33 rfl rfl ?_
  refine gC_X0_18_31 hO dX0_keep_34 rfl ?_
  refine aw_cg (show μ2.1 31 1 = μ.1 31 1 by rw [e_μ2, mst_ni (by decide), e_μ1, mcp_nk (by omega)]) ?_
  refine aw_bipush hO dX0_keep_37 rfl (by decide) (by decide) ?_
  refine aw_icmp_ge (tgt := 52) hO dX0_keep_39 rfl rfl ⟨by omega, by omega⟩ (inRlit _) (fun c39 => ?_) (fun c39 => ?_)
  · refine aw_vret hO dX0_keep_52 ?_
    exact ⟨rfl, by rw [show (((n + 1) % 40 : Nat) : Int) = ((n : Int) + 1) % 40 by omega, show min 40 (μ.1 31 1 + 1) = μ.1 31 1 by omega]; rw [mst_self (k := 31) (i := 1) (by rw [mst_ni (by decide), mcp_nk (by omega)]), e_μ2, e_μ1]⟩
  · refine aw_aload_n hO dX0_keep_42 rfl rfl ?_
    refine aw_dup hO dX0_keep_43 rfl rfl ?_
    refine gC_X0_18_31 hO dX0_keep_44 rfl ?_
    refine aw_cg (show μ2.1 31 1 = μ.1 31 1 by rw [e_μ2, mst_ni (by decide), e_μ1, mcp_nk (by omega)]) ?_
    refine aw_iconst hO dX0_keep_47 rfl ?_
    refine aw_iadd hO dX0_keep_48 rfl ?_
    refine pC_X0_18_31 hO dX0_keep_49 rfl ?_
    refine aw_mm (fun μ3 e_μ3 => ?_)
    refine aw_vret hO dX0_keep_52 ?_
    exact ⟨rfl, by rw [show (((n + 1) % 40 : Nat) : Int) = ((n : Int) + 1) % 40 by omega, show min 40 (μ.1 31 1 + 1) = μ.1 31 1 + 1 by omega, e_μ3, e_μ2, e_μ1]⟩
theorem dX0_takeBack_0 : decode cX0_takeBack 0 = .ok (.aload_n 0, 1) := by decide +kernel
theorem dX0_takeBack_1 : decode cX0_takeBack 1 = .ok (.getfield 18, 3) := by decide +kernel
theorem dX0_takeBack_4 : decode cX0_takeBack 4 = .ok (.ifCond .le 49, 3) := by decide +kernel
theorem dX0_takeBack_7 : decode cX0_takeBack 7 = .ok (.aload_n 0, 1) := by decide +kernel
theorem dX0_takeBack_8 : decode cX0_takeBack 8 = .ok (.aload_n 0, 1) := by decide +kernel
theorem dX0_takeBack_9 : decode cX0_takeBack 9 = .ok (.getfield 22, 3) := by decide +kernel
theorem dX0_takeBack_12 : decode cX0_takeBack 12 = .ok (.bipush 40, 2) := by decide +kernel
theorem dX0_takeBack_14 : decode cX0_takeBack 14 = .ok (.iadd, 1) := by decide +kernel
theorem dX0_takeBack_15 : decode cX0_takeBack 15 = .ok (.iconst 1, 1) := by decide +kernel
theorem dX0_takeBack_16 : decode cX0_takeBack 16 = .ok (.isub, 1) := by decide +kernel
theorem dX0_takeBack_17 : decode cX0_takeBack 17 = .ok (.bipush 40, 2) := by decide +kernel
theorem dX0_takeBack_19 : decode cX0_takeBack 19 = .ok (.irem, 1) := by decide +kernel
theorem dX0_takeBack_20 : decode cX0_takeBack 20 = .ok (.putfield 22, 3) := by decide +kernel
theorem dX0_takeBack_23 : decode cX0_takeBack 23 = .ok (.aload_n 0, 1) := by decide +kernel
theorem dX0_takeBack_24 : decode cX0_takeBack 24 = .ok (.dup, 1) := by decide +kernel
theorem dX0_takeBack_25 : decode cX0_takeBack 25 = .ok (.getfield 18, 3) := by decide +kernel
theorem dX0_takeBack_28 : decode cX0_takeBack 28 = .ok (.iconst 1, 1) := by decide +kernel
theorem dX0_takeBack_29 : decode cX0_takeBack 29 = .ok (.isub, 1) := by decide +kernel
theorem dX0_takeBack_30 : decode cX0_takeBack 30 = .ok (.putfield 18, 3) := by decide +kernel
theorem dX0_takeBack_33 : decode cX0_takeBack 33 = .ok (.aload_n 0, 1) := by decide +kernel
theorem dX0_takeBack_34 : decode cX0_takeBack 34 = .ok (.getfield 13, 3) := by decide +kernel
theorem dX0_takeBack_37 : decode cX0_takeBack 37 = .ok (.aload_n 0, 1) := by decide +kernel
theorem dX0_takeBack_38 : decode cX0_takeBack 38 = .ok (.getfield 22, 3) := by decide +kernel
theorem dX0_takeBack_41 : decode cX0_takeBack 41 = .ok (.aaload, 1) := by decide +kernel
theorem dX0_takeBack_42 : decode cX0_takeBack 42 = .ok (.iconst 0, 1) := by decide +kernel
theorem dX0_takeBack_43 : decode cX0_takeBack 43 = .ok (.aload_n 1, 1) := by decide +kernel
theorem dX0_takeBack_44 : decode cX0_takeBack 44 = .ok (.getfield 25, 3) := by decide +kernel
theorem dX0_takeBack_47 : decode cX0_takeBack 47 = .ok (.iconst 0, 1) := by decide +kernel
theorem dX0_takeBack_48 : decode cX0_takeBack 48 = .ok (.bipush 98, 2) := by decide +kernel
theorem dX0_takeBack_50 : decode cX0_takeBack 50 = .ok (.invokestatic 29, 3) := by decide +kernel
theorem dX0_takeBack_53 : decode cX0_takeBack 53 = .ok (.return_, 1) := by decide +kernel
set_option maxHeartbeats 4000000 in
set_option maxRecDepth 100000 in
theorem ctC_0_takeBack (μ : Mm) {n : Nat} (hn : μ.1 31 2 = (n : Int)) (hn2 : n < 40) (hh : 0 < μ.1 31 1 ∧ μ.1 31 1 ≤ 40) : CtV PC 1 yX0_takeBack cX0_takeBack 2 none [vR 31, vR 27] μ (fun m => m = mcp (mst (mst μ 31 2 ((n + 39) % 40 : Nat)) 31 1 (μ.1 31 1 - 1)) 28 (33 + (n + 39) % 40) 0 0 98) := by
  refine ct_intro [some (vR 31), some (vR 27)] RX0 (by decide) rfl XCo rfl (Nat.le_of_ble_eq_true rfl) (fun K hO => ?_)
  refine aw_aload_n hO dX0_takeBack_0 rfl rfl ?_
  refine gC_X0_18_31 hO dX0_takeBack_1 rfl ?_
  refine aw_if_le (tgt := 53) hO dX0_takeBack_4 rfl rfl ⟨by omega, by omega⟩ (fun c4 => ?_) (fun c4 => ?_)
  · exact absurd c4 (by omega)
  · refine aw_aload_n hO dX0_takeBack_7 rfl rfl ?_
    refine aw_aload_n hO dX0_takeBack_8 rfl rfl ?_
    refine gC_X0_22_31 hO dX0_takeBack_9 rfl ?_
    refine aw_cg hn ?_
    refine aw_bipush hO dX0_takeBack_12 rfl (by decide) (by decide) ?_
    refine aw_iadd hO dX0_takeBack_14 rfl ?_
    refine aw_iconst hO dX0_takeBack_15 rfl ?_
    refine aw_isub hO dX0_takeBack_16 rfl ?_
    refine aw_bipush hO dX0_takeBack_17 rfl (by decide) (by decide) ?_
    refine aw_irem hO dX0_takeBack_19 rfl (by omega) (by omega) (by omega) (by omega) ?_
    refine pC_X0_22_31 hO dX0_takeBack_20 rfl ?_
    refine aw_mm (fun μ1 e_μ1 => ?_)
    refine aw_aload_n hO dX0_takeBack_23 rfl rfl ?_
    refine aw_dup hO dX0_takeBack_24 rfl rfl ?_
    refine gC_X0_18_31 hO dX0_takeBack_25 rfl ?_
    refine aw_cg (show μ1.1 31 1 = μ.1 31 1 by rw [e_μ1, mst_ni (by decide)]) ?_
    refine aw_iconst hO dX0_takeBack_28 rfl ?_
    refine aw_isub hO dX0_takeBack_29 rfl ?_
    refine pC_X0_18_31 hO dX0_takeBack_30 rfl ?_
    refine aw_mm (fun μ2 e_μ2 => ?_)
    refine aw_aload_n hO dX0_takeBack_33 rfl rfl ?_
    refine gC_X0_13_31 hO dX0_takeBack_34 rfl ?_
    refine aw_aload_n hO dX0_takeBack_37 rfl rfl ?_
    refine gC_X0_22_31 hO dX0_takeBack_38 rfl ?_
    refine aw_cg (show μ2.1 31 2 = (((n + 39) % 40 : Nat) : Int) by rw [e_μ2, mst_ni (by decide), e_μ1, mst_eq]; omega) ?_
    refine aw_aaldT (i := ((n + 39) % 40)) hO dX0_takeBack_41 rfl (by decide) rfl rfl (by decide) rfl (by omega) ?_
    refine aw_iconst hO dX0_takeBack_42 rfl ?_
    refine aw_aload_n hO dX0_takeBack_43 rfl rfl ?_
    refine gC_X0_25_27 hO dX0_takeBack_44 rfl ?_
    refine aw_iconst hO dX0_takeBack_47 rfl ?_
    refine aw_bipush hO dX0_takeBack_48 rfl (by decide) (by decide) ?_
    refine aw_cpy (sp := 0) (dp := 0) (m := 98) hO dX0_takeBack_50 rfl (lw_t3 147 rfl rfl) cpw (row40 (show (n + 39) % 40 < 40 by omega)).1 (row40 (show (n + 39) % 40 < 40 by omega)).2 (by decide) rfl rfl (by decide) (by decide) rfl rfl rfl (by decide) (by decide) (by decide) rfl (Nat.le_of_ble_eq_true rfl) ?_
    refine aw_mm (fun μ3 e_μ3 => ?_)
    refine aw_vret hO dX0_takeBack_53 ?_
    exact ⟨rfl, by rw [e_μ3, e_μ2, e_μ1, show (((n + 39) % 40 : Nat) : Int) = ((n : Int) + 40 - 1) % 40 by omega]⟩
theorem dX0_forget_0 : decode cX0_forget 0 = .ok (.aload_n 0, 1) := by decide +kernel
theorem dX0_forget_1 : decode cX0_forget 1 = .ok (.iconst 0, 1) := by decide +kernel
theorem dX0_forget_2 : decode cX0_forget 2 = .ok (.putfield 18, 3) := by decide +kernel
theorem dX0_forget_5 : decode cX0_forget 5 = .ok (.return_, 1) := by decide +kernel
set_option maxHeartbeats 4000000 in
set_option maxRecDepth 100000 in
theorem ctC_0_forget (μ : Mm) : CtV PC 0 yX0_forget cX0_forget 1 none [vR 31] μ (fun m => m = mst μ 31 1 0) := by
  refine ct_intro [some (vR 31)] RX0 (by decide) rfl XCo rfl (Nat.le_of_ble_eq_true rfl) (fun K hO => ?_)
  refine aw_aload_n hO dX0_forget_0 rfl rfl ?_
  refine aw_iconst hO dX0_forget_1 rfl ?_
  refine pC_X0_18_31 hO dX0_forget_2 rfl ?_
  refine aw_mm (fun μ1 e_μ1 => ?_)
  refine aw_vret hO dX0_forget_5 ?_
  exact ⟨rfl, e_μ1⟩
