/-! ## questions (4): odds -/
/-- whom he has met so far, as bits and on the row -/
def OB (ν : Mm) (o : Nat) (b : Int) (F : Nat → Int) : Prop := (∀ p : Nat, p < o → (p : Int) < ν.1 0 25 → hasB (ν.1 17 31) p = false → F p = if hasB b p = true then 1 else 0) ∧ (∀ p, p < 32 → hasB b p = true → p < o ∧ hasB (ν.1 17 31) p = false) ∧ ∀ i, 6 ≤ i → F i = ν.1 17 i
def onesF (f : Nat → Int) (n : Nat) : Nat → Int := fun i => if i < n then 1 else f i
theorem onesF_0 (f : Nat → Int) : onesF f 0 = f := by funext i; unfold onesF; rw [if_neg (by omega)]
theorem onesF_s (f : Nat → Int) (n : Nat) : fu (onesF f n) n 1 = onesF f (n + 1) := by
  funext i
  unfold fu onesF
  by_cases e : i = n
  · rw [if_pos e, if_pos (by omega)]
  · rw [if_neg e]
    by_cases e2 : i < n
    · rw [if_pos e2, if_pos (by omega)]
    · rw [if_neg e2, if_neg (by omega)]
theorem onesF_ok {f : Nat → Int} (h : NowOK f) : ∀ n, n ≤ 6 → NowOK (onesF f n)
  | 0, _ => by rw [onesF_0]; exact h
  | n + 1, hn => by
    rw [← onesF_s]
    exact (onesF_ok h n (by omega)).upd (fun _ => by omega) (by omega) (by omega) (by omega) (by omega) (by omega) (by omega)
/-- the memory while odds are reckoned -/
def OM (ν m : Mm) : Prop := JR m 78 (wN ν (onesF (ν.1 17) (ν.1 0 25).toNat)) ∧ ∀ p : Nat, (p : Int) < ν.1 0 25 → hasB (ν.1 17 31) p = false → m.1 75 p = appealM (wN ν (onesF (ν.1 17) (ν.1 0 25).toNat)) p
theorem odd_leaf {ν m : Mm} {b : Int} {F : Nat → Int} (hn : ν.1 0 25 ≤ 6) (hM : OM ν m) (hG : MG ν) (hF : NowOK F) (h : OB ν (ν.1 0 25).toNat b F) : (if best (fun p => hasB b p) (m.1 75) 6 = -1 then best (fun p => hasB (inT (wN ν (onesF (ν.1 17) (ν.1 0 25).toNat))) p) (fun p => ν.1 15 (4 * p + 2)) (ν.1 0 25).toNat else best (fun p => hasB b p) (m.1 75) 6) = pickM (wN ν F) (ν.1 0 25).toNat := by
  have hB : MB (wN ν F) := (MG_N hG hF).1
  have h0 := hG.1.np
  have hcan : ∀ p, p < 6 → hasB (canT (wN ν F)) p = hasB b p := fun p hp => by
    rw [hasB_canT hB (by omega)]
    have e25 : (wN ν F).1 0 25 = ν.1 0 25 := rfl
    have e31 : (wN ν F).1 17 31 = ν.1 17 31 := by rw [wN_17]; exact h.2.2 31 (by decide)
    unfold mayM
    rw [e25, e31, wN_17]
    by_cases hpn : (p : Int) < ν.1 0 25
    · cases ha : hasB (ν.1 17 31) p with
      | true =>
        cases hb : hasB b p with
        | true => rw [(h.2.1 p (by omega) hb).2] at ha; cases ha
        | false => simp
      | false =>
        rw [h.1 p (by omega) hpn ha]
        cases hb : hasB b p <;> simp [hpn]
    · cases hb : hasB b p with
      | true => have := (h.2.1 p (by omega) hb).1; omega
      | false => simp [hpn]
  have e1 : best (fun p => hasB b p) (m.1 75) 6 = best (fun p => hasB (canT (wN ν F)) p) (m.1 75) 6 := best_congr 6 (fun p hp => (hcan p hp).symm) (fun _ _ => rfl)
  have e2 : inT (wN ν (onesF (ν.1 17) (ν.1 0 25).toNat)) = inT (wN ν F) := inT_row (by rw [h.2.2 31 (by decide)]; unfold onesF; rw [if_neg (by omega)])
  rw [e1, e2]
  refine pick_best hB (fun p hp hc => ?_)
  have hb := hcan p hp
  rw [hc] at hb
  obtain ⟨q1, q2⟩ := h.2.1 p (by omega) hb.symm
  have q3 := h.1 p q1 (by omega) q2
  rw [if_pos hb.symm] at q3
  rw [hM.2 p (by omega) q2]
  have n1 : ∀ i, 6 ≤ i → onesF (ν.1 17) (ν.1 0 25).toNat i = F i := fun i hi => by unfold onesF; rw [if_neg (by omega), h.2.2 i hi]
  exact appealM_row (by rw [q3]; unfold onesF; rw [if_pos q1]) (n1 _ (by omega)) (n1 _ (by omega)) (n1 _ (by omega)) (n1 _ (by omega))
theorem OB.aw {ν : Mm} {o : Nat} {b : Int} {F : Nat → Int} (h : OB ν o b F) (ha : hasB (ν.1 17 31) o = true) : OB ν (o + 1) b F := ⟨fun p hp hn hna => h.1 p (by rcases Nat.lt_or_ge p o with z | z; exact z; rw [show p = o by omega, ha] at hna; cases hna) hn hna, fun p hp hb => ⟨by have := (h.2.1 p hp hb).1; omega, (h.2.1 p hp hb).2⟩, h.2.2⟩
theorem OB.yes {ν : Mm} {o : Nat} {b : Int} {F : Nat → Int} (h : OB ν o b F) (ho : o < 6) (ha : hasB (ν.1 17 31) o = false) : OB ν (o + 1) (bOr b (bShl 1 (o : Int))) (fu F o 1) := by
  refine ⟨fun p hp hn hna => ?_, fun p hp hb => ?_, fun i hi => by rw [fu_ne (by omega)]; exact h.2.2 i hi⟩
  · rw [hasB_or (by omega), hasB_shl (by omega) (by omega)]
    by_cases e : p = o
    · subst e; rw [fu_eq]; simp
    · rw [fu_ne e, h.1 p (by omega) hn hna]; simp [e]
  · rw [hasB_or hp, hasB_shl hp (by omega)] at hb
    simp only [Bool.or_eq_true, decide_eq_true_eq] at hb
    rcases hb with q | q
    · exact ⟨by have := (h.2.1 p hp q).1; omega, (h.2.1 p hp q).2⟩
    · subst q; exact ⟨by omega, ha⟩
theorem OB.no {ν : Mm} {o : Nat} {b : Int} {F : Nat → Int} (h : OB ν o b F) (ho : (o : Int) < ν.1 0 25) (hn : ν.1 0 25 ≤ 6) (ha : hasB (ν.1 17 31) o = false) : OB ν (o + 1) b (fu (clrM (ν.1 17 31) (ν.1 0 25).toNat (fu F o 1) (o + 1)) o 0) := by
  have hc : ∀ i, i < o + 1 ∨ 6 ≤ i → clrM (ν.1 17 31) (ν.1 0 25).toNat (fu F o 1) (o + 1) i = fu F o 1 i := fun i hi => by unfold clrM; rw [if_neg (by omega)]
  refine ⟨fun p hp hpn hna => ?_, fun p hp hb => ⟨by have := (h.2.1 p hp hb).1; omega, (h.2.1 p hp hb).2⟩, fun i hi => by rw [fu_ne (by omega), hc i (Or.inr hi), fu_ne (by omega)]; exact h.2.2 i hi⟩
  by_cases e : p = o
  · subst e
    rw [fu_eq, if_neg (fun q => by have := (h.2.1 p (by omega) q).1; omega)]
  · rw [fu_ne e, hc p (by omega), fu_ne e, h.1 p (by omega) hpn hna]
/-- somebody away is never picked -/
theorem pick_away {ν : Mm} {n v : Nat} (ha : hasB (ν.1 17 31) v = true) : pickM ν n ≠ (v : Int) := by
  intro e
  unfold pickM at e
  split at e
  · have h1 := best_ok (ok := fun p => !hasB (ν.1 17 31) p) (val := fun p => ν.1 15 (4 * p + 2)) n
    unfold restM at e
    rw [e, Int.toNat_natCast, ha] at h1
    rcases h1 with q | q
    · omega
    · cases q
  · have h1 := best_ok (ok := mayM ν) (val := appealM ν) n
    unfold himM at e
    rw [e, Int.toNat_natCast] at h1
    rcases h1 with q | q
    · omega
    · unfold mayM at q; rw [ha] at q; cases q
theorem odF_away {ν : Mm} {v : Nat} {ch : Int} (hn : ν.1 0 25 ≤ 6) (ha : hasB (ν.1 17 31) v = true) : ∀ (c o : Nat) (F : Nat → Int) (pt : Int), (o : Int) + c = ν.1 0 25 → F 31 = ν.1 17 31 → odF ν (v : Int) ch c o F pt = 0
  | 0, o, F, pt, _, h31 => by
    rw [odF, if_neg (pick_away (by rw [wN_17, h31]; exact ha))]
  | c + 1, o, F, pt, ho, h31 => by
    rw [odF]
    split
    · exact odF_away hn ha c (o + 1) F pt (by omega) h31
    · rw [odF_away hn ha c (o + 1) _ _ (by omega) (by rw [fu_ne (by omega)]; exact h31), odF_away hn ha c (o + 1) _ _ (by omega) (by rw [fu_ne (by omega)]; unfold clrM; rw [if_neg (by omega), fu_ne (by omega)]; exact h31)]
      rfl
theorem dX6_partsFor_0 : decode cX6_partsFor 0 = .ok (.iload_n 3, 1) := by decide +kernel
theorem dX6_partsFor_1 : decode cX6_partsFor 1 = .ok (.aload_n 0, 1) := by decide +kernel
theorem dX6_partsFor_2 : decode cX6_partsFor 2 = .ok (.getfield 29, 3) := by decide +kernel
theorem dX6_partsFor_5 : decode cX6_partsFor 5 = .ok (.getfield 94, 3) := by decide +kernel
theorem dX6_partsFor_8 : decode cX6_partsFor 8 = .ok (.if_icmp .lt 34, 3) := by decide +kernel
theorem dX6_partsFor_11 : decode cX6_partsFor 11 = .ok (.aload_n 0, 1) := by decide +kernel
theorem dX6_partsFor_12 : decode cX6_partsFor 12 = .ok (.getfield 33, 3) := by decide +kernel
theorem dX6_partsFor_15 : decode cX6_partsFor 15 = .ok (.iload 4, 2) := by decide +kernel
theorem dX6_partsFor_17 : decode cX6_partsFor 17 = .ok (.aload_n 0, 1) := by decide +kernel
theorem dX6_partsFor_18 : decode cX6_partsFor 18 = .ok (.getfield 33, 3) := by decide +kernel
theorem dX6_partsFor_21 : decode cX6_partsFor 21 = .ok (.aload_n 0, 1) := by decide +kernel
theorem dX6_partsFor_22 : decode cX6_partsFor 22 = .ok (.getfield 12, 3) := by decide +kernel
theorem dX6_partsFor_25 : decode cX6_partsFor 25 = .ok (.invokevirtual 66, 3) := by decide +kernel
theorem dX6_partsFor_28 : decode cX6_partsFor 28 = .ok (.invokevirtual 77, 3) := by decide +kernel
theorem dX6_partsFor_31 : decode cX6_partsFor 31 = .ok (.iload_n 1, 1) := by decide +kernel
theorem dX6_partsFor_32 : decode cX6_partsFor 32 = .ok (.if_icmp .ne 8, 3) := by decide +kernel
theorem dX6_partsFor_35 : decode cX6_partsFor 35 = .ok (.lload 5, 2) := by decide +kernel
theorem dX6_partsFor_37 : decode cX6_partsFor 37 = .ok (.goto 4, 3) := by decide +kernel
theorem dX6_partsFor_40 : decode cX6_partsFor 40 = .ok (.lconst 0, 1) := by decide +kernel
theorem dX6_partsFor_41 : decode cX6_partsFor 41 = .ok (.lreturn, 1) := by decide +kernel
theorem dX6_partsFor_42 : decode cX6_partsFor 42 = .ok (.aload_n 0, 1) := by decide +kernel
theorem dX6_partsFor_43 : decode cX6_partsFor 43 = .ok (.getfield 12, 3) := by decide +kernel
theorem dX6_partsFor_46 : decode cX6_partsFor 46 = .ok (.iload_n 3, 1) := by decide +kernel
theorem dX6_partsFor_47 : decode cX6_partsFor 47 = .ok (.invokevirtual 142, 3) := by decide +kernel
theorem dX6_partsFor_50 : decode cX6_partsFor 50 = .ok (.ifCond .eq 17, 3) := by decide +kernel
theorem dX6_partsFor_53 : decode cX6_partsFor 53 = .ok (.aload_n 0, 1) := by decide +kernel
theorem dX6_partsFor_54 : decode cX6_partsFor 54 = .ok (.iload_n 1, 1) := by decide +kernel
theorem dX6_partsFor_55 : decode cX6_partsFor 55 = .ok (.iload_n 2, 1) := by decide +kernel
theorem dX6_partsFor_56 : decode cX6_partsFor 56 = .ok (.iload_n 3, 1) := by decide +kernel
theorem dX6_partsFor_57 : decode cX6_partsFor 57 = .ok (.iconst 1, 1) := by decide +kernel
theorem dX6_partsFor_58 : decode cX6_partsFor 58 = .ok (.iadd, 1) := by decide +kernel
theorem dX6_partsFor_59 : decode cX6_partsFor 59 = .ok (.iload 4, 2) := by decide +kernel
theorem dX6_partsFor_61 : decode cX6_partsFor 61 = .ok (.lload 5, 2) := by decide +kernel
theorem dX6_partsFor_63 : decode cX6_partsFor 63 = .ok (.invokevirtual 138, 3) := by decide +kernel
theorem dX6_partsFor_66 : decode cX6_partsFor 66 = .ok (.lreturn, 1) := by decide +kernel
theorem dX6_partsFor_67 : decode cX6_partsFor 67 = .ok (.lload 5, 2) := by decide +kernel
theorem dX6_partsFor_69 : decode cX6_partsFor 69 = .ok (.iload_n 2, 1) := by decide +kernel
theorem dX6_partsFor_70 : decode cX6_partsFor 70 = .ok (.i2l, 1) := by decide +kernel
theorem dX6_partsFor_71 : decode cX6_partsFor 71 = .ok (.lmul, 1) := by decide +kernel
theorem dX6_partsFor_72 : decode cX6_partsFor 72 = .ok (.ldc2_w 145, 3) := by decide +kernel
theorem dX6_partsFor_75 : decode cX6_partsFor 75 = .ok (.ldiv, 1) := by decide +kernel
theorem dX6_partsFor_76 : decode cX6_partsFor 76 = .ok (.lstore 7, 2) := by decide +kernel
theorem dX6_partsFor_78 : decode cX6_partsFor 78 = .ok (.aload_n 0, 1) := by decide +kernel
theorem dX6_partsFor_79 : decode cX6_partsFor 79 = .ok (.iload_n 1, 1) := by decide +kernel
theorem dX6_partsFor_80 : decode cX6_partsFor 80 = .ok (.iload_n 2, 1) := by decide +kernel
theorem dX6_partsFor_81 : decode cX6_partsFor 81 = .ok (.iload_n 3, 1) := by decide +kernel
theorem dX6_partsFor_82 : decode cX6_partsFor 82 = .ok (.iconst 1, 1) := by decide +kernel
theorem dX6_partsFor_83 : decode cX6_partsFor 83 = .ok (.iadd, 1) := by decide +kernel
theorem dX6_partsFor_84 : decode cX6_partsFor 84 = .ok (.iload 4, 2) := by decide +kernel
theorem dX6_partsFor_86 : decode cX6_partsFor 86 = .ok (.iconst 1, 1) := by decide +kernel
theorem dX6_partsFor_87 : decode cX6_partsFor 87 = .ok (.iload_n 3, 1) := by decide +kernel
theorem dX6_partsFor_88 : decode cX6_partsFor 88 = .ok (.ishl, 1) := by decide +kernel
theorem dX6_partsFor_89 : decode cX6_partsFor 89 = .ok (.ior, 1) := by decide +kernel
theorem dX6_partsFor_90 : decode cX6_partsFor 90 = .ok (.lload 7, 2) := by decide +kernel
theorem dX6_partsFor_92 : decode cX6_partsFor 92 = .ok (.invokevirtual 138, 3) := by decide +kernel
theorem dX6_partsFor_95 : decode cX6_partsFor 95 = .ok (.aload_n 0, 1) := by decide +kernel
theorem dX6_partsFor_96 : decode cX6_partsFor 96 = .ok (.iload_n 1, 1) := by decide +kernel
theorem dX6_partsFor_97 : decode cX6_partsFor 97 = .ok (.iload_n 2, 1) := by decide +kernel
theorem dX6_partsFor_98 : decode cX6_partsFor 98 = .ok (.iload_n 3, 1) := by decide +kernel
theorem dX6_partsFor_99 : decode cX6_partsFor 99 = .ok (.iconst 1, 1) := by decide +kernel
theorem dX6_partsFor_100 : decode cX6_partsFor 100 = .ok (.iadd, 1) := by decide +kernel
theorem dX6_partsFor_101 : decode cX6_partsFor 101 = .ok (.iload 4, 2) := by decide +kernel
theorem dX6_partsFor_103 : decode cX6_partsFor 103 = .ok (.lload 5, 2) := by decide +kernel
theorem dX6_partsFor_105 : decode cX6_partsFor 105 = .ok (.lload 7, 2) := by decide +kernel
theorem dX6_partsFor_107 : decode cX6_partsFor 107 = .ok (.lsub, 1) := by decide +kernel
theorem dX6_partsFor_108 : decode cX6_partsFor 108 = .ok (.invokevirtual 138, 3) := by decide +kernel
theorem dX6_partsFor_111 : decode cX6_partsFor 111 = .ok (.ladd, 1) := by decide +kernel
theorem dX6_partsFor_112 : decode cX6_partsFor 112 = .ok (.lreturn, 1) := by decide +kernel
set_option maxHeartbeats 4000000 in
set_option maxRecDepth 100000 in
theorem cJ_partsFor {ν m : Mm} (hM : OM ν m) (hG : MG ν) {v ch : Int} (hv : InR v) (hc1 : 0 ≤ ch) (hc2 : ch ≤ 100) : ∀ (c o : Nat) (b : Int) (F : Nat → Int) (pt : Int), (o : Int) + c = ν.1 0 25 → OB ν o b F → NowOK F → 0 ≤ pt → pt ≤ 1000000000 → CtL PC (3 + c) yX6_partsFor cX6_partsFor 9 (some .long) [vR 77, vI v, vI ch, vI ((o : Nat) : Int), vI b, vL pt] m (fun r m' => r = odF ν v ch c o F pt ∧ m' = m) := by
  have h0 := hG.1.np
  have hJ := hM.1
  have hT0 : JR0 m ν := ⟨hG.1, hM.1.T⟩
  intro c
  induction c with
  | zero =>
    intro o b F pt ho hOB hF hp1 hp2
    refine ct_intro [some (vR 77), some (vI v), some (vI ch), some (vI ((o : Nat) : Int)), some (vI b), some (vL pt), none, none, none] RX6 (by decide) rfl XCo rfl (Nat.le_of_ble_eq_true rfl) (fun K hO => ?_)
    have hon : o = (ν.1 0 25).toNat := by omega
    rw [hon] at hOB
    have hlf := odd_leaf h0.2 hM hG hF hOB
    have hpr := pickM_rng (wN ν F) (ν.1 0 25).toNat
    have hR : ∀ q, q < 6 → hasB b q = true → InR (m.1 75 q) := fun q hq hb => by obtain ⟨q1, q2⟩ := hOB.2.1 q (by omega) hb; rw [hM.2 q (by omega) q2]; have := appealM_R (wN ν (onesF (ν.1 17) (ν.1 0 25).toNat)) q; exact ⟨by omega, by omega⟩
    refine aw_iload_n hO dX6_partsFor_0 rfl rfl ?_
    refine aw_aload_n hO dX6_partsFor_1 rfl rfl ?_
    refine gC_X6_29_77 hO dX6_partsFor_2 rfl ?_
    refine gC_X6_94_25 hO dX6_partsFor_5 rfl ?_
    refine aw_cg hT0.T.n ?_
    refine aw_icmp_lt (tgt := 42) hO dX6_partsFor_8 rfl rfl (inRn (by omega)) ⟨by omega, by omega⟩ (fun c8 => ?_) (fun c8 => ?_)
    · exact absurd c8 (by omega)
    · refine aw_aload_n hO dX6_partsFor_11 rfl rfl ?_
      refine gC_X6_33_77 hO dX6_partsFor_12 rfl ?_
      refine aw_iload hO dX6_partsFor_15 rfl rfl ?_
      refine aw_aload_n hO dX6_partsFor_17 rfl rfl ?_
      refine gC_X6_33_77 hO dX6_partsFor_18 rfl ?_
      refine aw_aload_n hO dX6_partsFor_21 rfl rfl ?_
      refine gC_X6_12_77 hO dX6_partsFor_22 rfl ?_
      refine aw_callVI (as := [vR 78]) (st := [vI b, vR 73]) hO dX6_partsFor_25 rfl (lw_t4 181 rfl rfl) kX3_inTown (T := TX3) rfl (by decide) rfl (cJ_inTown hJ) (by omega) rfl rfl rfl (Nat.le_of_ble_eq_true rfl) ?_
      refine aw_callVI (as := [vI b, vI (inT (wN ν (onesF (ν.1 17) (ν.1 0 25).toNat)))]) (st := []) hO dX6_partsFor_28 rfl (lw_t4 184 rfl rfl) kX3_choice (T := TX3) rfl (by decide) rfl (cJ_choice hJ (b := b) (t := inT (wN ν (onesF (ν.1 17) (ν.1 0 25).toNat))) hR) (by omega) rfl rfl rfl (Nat.le_of_ble_eq_true rfl) ?_
      refine aw_cg (show _ = pickM (wN ν F) (ν.1 0 25).toNat from hlf) ?_
      refine aw_iload_n hO dX6_partsFor_31 rfl rfl ?_
      refine aw_icmp_ne (tgt := 40) hO dX6_partsFor_32 rfl rfl ⟨by omega, by omega⟩ hv (fun c32 => ?_) (fun c32 => ?_)
      · refine aw_lconst0 hO dX6_partsFor_40 rfl ?_
        refine aw_lret hO dX6_partsFor_41 ?_
        exact ⟨_, rfl, by rw [odF, if_neg c32], rfl⟩
      · refine aw_lload hO dX6_partsFor_35 rfl rfl ?_
        refine aw_goto (tgt := 41) hO dX6_partsFor_37 rfl ?_
        refine aw_lret hO dX6_partsFor_41 ?_
        exact ⟨_, rfl, by rw [odF, if_pos c32], rfl⟩
  | succ c ih =>
    intro o b F pt ho hOB hF hp1 hp2
    refine ct_intro [some (vR 77), some (vI v), some (vI ch), some (vI ((o : Nat) : Int)), some (vI b), some (vL pt), none, none, none] RX6 (by decide) rfl XCo rfl (Nat.le_of_ble_eq_true rfl) (fun K hO => ?_)
    have hmu := mulB hp1 hp2 hc1 hc2
    have h31 : onesF (ν.1 17) (ν.1 0 25).toNat 31 = ν.1 17 31 := by unfold onesF; rw [if_neg (by omega)]
    have hd1 : 0 ≤ (pt * ch).tdiv 100 ∧ (pt * ch).tdiv 100 ≤ pt := by
      rw [Int.tdiv_eq_ediv_of_nonneg hmu.1]
      have q : pt * ch ≤ pt * 100 := Int.mul_le_mul_of_nonneg_left hc2 hp1
      omega
    refine aw_iload_n hO dX6_partsFor_0 rfl rfl ?_
    refine aw_aload_n hO dX6_partsFor_1 rfl rfl ?_
    refine gC_X6_29_77 hO dX6_partsFor_2 rfl ?_
    refine gC_X6_94_25 hO dX6_partsFor_5 rfl ?_
    refine aw_cg hT0.T.n ?_
    refine aw_icmp_lt (tgt := 42) hO dX6_partsFor_8 rfl rfl (inRn (by omega)) ⟨by omega, by omega⟩ (fun c8 => ?_) (fun c8 => ?_)
    · refine aw_aload_n hO dX6_partsFor_42 rfl rfl ?_
      refine gC_X6_12_77 hO dX6_partsFor_43 rfl ?_
      refine aw_iload_n hO dX6_partsFor_46 rfl rfl ?_
      refine aw_callVI (as := [vI ((o : Nat) : Int)]) (st := []) hO dX6_partsFor_47 rfl (lw_t5 71 rfl rfl) kX7_isAway (T := TX7) rfl (by decide) rfl (cJ_isAway hJ.ob hJ.S o) (by omega) rfl rfl rfl (Nat.le_of_ble_eq_true rfl) ?_
      refine aw_cg (show (if hasB ((wN ν (onesF (ν.1 17) (ν.1 0 25).toNat)).1 17 31) o = true then (1 : Int) else 0) = if hasB (ν.1 17 31) o = true then 1 else 0 by rw [wN_17, h31]) ?_
      refine aw_ifz_eq (tgt := 67) hO dX6_partsFor_50 rfl rfl (fun c50 => ?_) (fun c50 => ?_)
      · have c50b : hasB (ν.1 17 31) o = false := by simpa using c50
        refine aw_lload hO dX6_partsFor_67 rfl rfl ?_
        refine aw_iload_n hO dX6_partsFor_69 rfl rfl ?_
        refine aw_i2l hO dX6_partsFor_70 rfl ⟨by omega, by omega⟩ ?_
        refine aw_lmul hO dX6_partsFor_71 rfl ?_
        refine aw_ldc2 (a := 100) hO dX6_partsFor_72 rfl (lw_t5 72 rfl rfl) ?_
        refine aw_ldiv hO dX6_partsFor_75 rfl ⟨by omega, by omega⟩ ⟨by omega, by omega⟩ (by omega) ?_
        refine aw_lstore (ls' := [some (vR 77), some (vI v), some (vI ch), some (vI ((o : Nat) : Int)), some (vI b), some (vL pt), none, some (vL (((pt * ch) : Int).tdiv 100)), none]) hO dX6_partsFor_76 rfl (Nat.le_of_ble_eq_true rfl) rfl rfl ?_
        refine aw_aload_n hO dX6_partsFor_78 rfl rfl ?_
        refine aw_iload_n hO dX6_partsFor_79 rfl rfl ?_
        refine aw_iload_n hO dX6_partsFor_80 rfl rfl ?_
        refine aw_iload_n hO dX6_partsFor_81 rfl rfl ?_
        refine aw_iconst hO dX6_partsFor_82 rfl ?_
        refine aw_iadd hO dX6_partsFor_83 rfl ?_
        refine aw_iload hO dX6_partsFor_84 rfl rfl ?_
        refine aw_iconst hO dX6_partsFor_86 rfl ?_
        refine aw_iload_n hO dX6_partsFor_87 rfl rfl ?_
        refine aw_ishl hO dX6_partsFor_88 rfl ?_
        refine aw_ior hO dX6_partsFor_89 rfl ?_
        refine aw_lload hO dX6_partsFor_90 rfl rfl ?_
        refine aw_callVL (as := [vI v, vI ch, vI (((o + 1) : Nat) : Int), vI (bOr b (bShl 1 ((o : Nat) : Int))), vL (((pt * ch) : Int).tdiv 100)]) (st := []) hO dX6_partsFor_92 rfl (lw_t5 67 rfl rfl) kX6_partsFor (T := TX6) rfl (by decide) rfl (ih (o + 1) (bOr b (bShl 1 ((o : Nat) : Int))) (fu F o 1) ((pt * ch).tdiv 100) (by omega) (hOB.yes (by omega) c50b) (hF.upd (fun _ => by omega) (by omega) (by omega) (by omega) (by omega) (by omega) (by omega)) (by omega) (by omega)) (by omega) rfl rfl rfl (Nat.le_of_ble_eq_true rfl) (fun v1 μ2 hq3 => ?_)
        obtain ⟨e_v1, e_μ2⟩ := hq3
        refine aw_meq e_μ2 ?_
        refine aw_aload_n hO dX6_partsFor_95 rfl rfl ?_
        refine aw_iload_n hO dX6_partsFor_96 rfl rfl ?_
        refine aw_iload_n hO dX6_partsFor_97 rfl rfl ?_
        refine aw_iload_n hO dX6_partsFor_98 rfl rfl ?_
        refine aw_iconst hO dX6_partsFor_99 rfl ?_
        refine aw_iadd hO dX6_partsFor_100 rfl ?_
        refine aw_iload hO dX6_partsFor_101 rfl rfl ?_
        refine aw_lload hO dX6_partsFor_103 rfl rfl ?_
        refine aw_lload hO dX6_partsFor_105 rfl rfl ?_
        refine aw_lsub hO dX6_partsFor_107 rfl ?_
        refine aw_callVL (as := [vI v, vI ch, vI (((o + 1) : Nat) : Int), vI b, vL (pt - (((pt * ch) : Int).tdiv 100))]) (st := [vL v1]) hO dX6_partsFor_108 rfl (lw_t5 67 rfl rfl) kX6_partsFor (T := TX6) rfl (by decide) rfl (ih (o + 1) b (fu (clrM (ν.1 17 31) (ν.1 0 25).toNat (fu F o 1) (o + 1)) o 0) (pt - (pt * ch).tdiv 100) (by omega) (hOB.no (by omega) h0.2 c50b) ((clr_ok (by omega) (hF.upd (fun _ => by omega) (by omega) (by omega) (by omega) (by omega) (by omega) (by omega))).upd (fun _ => by omega) (by omega) (by omega) (by omega) (by omega) (by omega) (by omega)) (by omega) (by omega)) (by omega) rfl rfl rfl (Nat.le_of_ble_eq_true rfl) (fun v4 μ5 hq6 => ?_)
        obtain ⟨e_v4, e_μ5⟩ := hq6
        refine aw_meq e_μ5 ?_
        refine aw_ladd hO dX6_partsFor_111 rfl ?_
        refine aw_lret hO dX6_partsFor_112 ?_
        exact ⟨_, rfl, by rw [odF, if_neg c50, e_v1, e_v4], rfl⟩
      · refine aw_aload_n hO dX6_partsFor_53 rfl rfl ?_
        refine aw_iload_n hO dX6_partsFor_54 rfl rfl ?_
        refine aw_iload_n hO dX6_partsFor_55 rfl rfl ?_
        refine aw_iload_n hO dX6_partsFor_56 rfl rfl ?_
        refine aw_iconst hO dX6_partsFor_57 rfl ?_
        refine aw_iadd hO dX6_partsFor_58 rfl ?_
        refine aw_iload hO dX6_partsFor_59 rfl rfl ?_
        refine aw_lload hO dX6_partsFor_61 rfl rfl ?_
        refine aw_callVL (as := [vI v, vI ch, vI (((o + 1) : Nat) : Int), vI b, vL pt]) (st := []) hO dX6_partsFor_63 rfl (lw_t5 67 rfl rfl) kX6_partsFor (T := TX6) rfl (by decide) rfl (ih (o + 1) b F pt (by omega) (hOB.aw c50) hF (by omega) (by omega)) (by omega) rfl rfl rfl (Nat.le_of_ble_eq_true rfl) (fun v7 μ8 hq9 => ?_)
        obtain ⟨e_v7, e_μ8⟩ := hq9
        refine aw_meq e_μ8 ?_
        refine aw_lret hO dX6_partsFor_66 ?_
        exact ⟨_, rfl, by rw [odF, if_pos c50, e_v7], rfl⟩
    · exact absurd c8 (by omega)
theorem dX6_oddsOf_0 : decode cX6_oddsOf 0 = .ok (.aload_n 0, 1) := by decide +kernel
theorem dX6_oddsOf_1 : decode cX6_oddsOf 1 = .ok (.getfield 12, 3) := by decide +kernel
theorem dX6_oddsOf_4 : decode cX6_oddsOf 4 = .ok (.aload_n 1, 1) := by decide +kernel
theorem dX6_oddsOf_5 : decode cX6_oddsOf 5 = .ok (.invokevirtual 58, 3) := by decide +kernel
theorem dX6_oddsOf_8 : decode cX6_oddsOf 8 = .ok (.iconst 0, 1) := by decide +kernel
theorem dX6_oddsOf_9 : decode cX6_oddsOf 9 = .ok (.istore 4, 2) := by decide +kernel
theorem dX6_oddsOf_11 : decode cX6_oddsOf 11 = .ok (.iload 4, 2) := by decide +kernel
theorem dX6_oddsOf_13 : decode cX6_oddsOf 13 = .ok (.aload_n 0, 1) := by decide +kernel
theorem dX6_oddsOf_14 : decode cX6_oddsOf 14 = .ok (.getfield 29, 3) := by decide +kernel
theorem dX6_oddsOf_17 : decode cX6_oddsOf 17 = .ok (.getfield 94, 3) := by decide +kernel
theorem dX6_oddsOf_20 : decode cX6_oddsOf 20 = .ok (.if_icmp .ge 19, 3) := by decide +kernel
theorem dX6_oddsOf_23 : decode cX6_oddsOf 23 = .ok (.aload_n 0, 1) := by decide +kernel
theorem dX6_oddsOf_24 : decode cX6_oddsOf 24 = .ok (.getfield 12, 3) := by decide +kernel
theorem dX6_oddsOf_27 : decode cX6_oddsOf 27 = .ok (.iload 4, 2) := by decide +kernel
theorem dX6_oddsOf_29 : decode cX6_oddsOf 29 = .ok (.iconst 1, 1) := by decide +kernel
theorem dX6_oddsOf_30 : decode cX6_oddsOf 30 = .ok (.invokevirtual 132, 3) := by decide +kernel
theorem dX6_oddsOf_33 : decode cX6_oddsOf 33 = .ok (.iinc 4 1, 3) := by decide +kernel
theorem dX6_oddsOf_36 : decode cX6_oddsOf 36 = .ok (.goto (-25), 3) := by decide +kernel
theorem dX6_oddsOf_39 : decode cX6_oddsOf 39 = .ok (.aload_n 0, 1) := by decide +kernel
theorem dX6_oddsOf_40 : decode cX6_oddsOf 40 = .ok (.getfield 33, 3) := by decide +kernel
theorem dX6_oddsOf_43 : decode cX6_oddsOf 43 = .ok (.aload_n 0, 1) := by decide +kernel
theorem dX6_oddsOf_44 : decode cX6_oddsOf 44 = .ok (.getfield 12, 3) := by decide +kernel
theorem dX6_oddsOf_47 : decode cX6_oddsOf 47 = .ok (.aload_n 0, 1) := by decide +kernel
theorem dX6_oddsOf_48 : decode cX6_oddsOf 48 = .ok (.getfield 33, 3) := by decide +kernel
theorem dX6_oddsOf_51 : decode cX6_oddsOf 51 = .ok (.aload_n 0, 1) := by decide +kernel
theorem dX6_oddsOf_52 : decode cX6_oddsOf 52 = .ok (.getfield 12, 3) := by decide +kernel
theorem dX6_oddsOf_55 : decode cX6_oddsOf 55 = .ok (.invokevirtual 66, 3) := by decide +kernel
theorem dX6_oddsOf_58 : decode cX6_oddsOf 58 = .ok (.invokevirtual 43, 3) := by decide +kernel
theorem dX6_oddsOf_61 : decode cX6_oddsOf 61 = .ok (.aload_n 0, 1) := by decide +kernel
theorem dX6_oddsOf_62 : decode cX6_oddsOf 62 = .ok (.iload_n 2, 1) := by decide +kernel
theorem dX6_oddsOf_63 : decode cX6_oddsOf 63 = .ok (.iload_n 3, 1) := by decide +kernel
theorem dX6_oddsOf_64 : decode cX6_oddsOf 64 = .ok (.iconst 0, 1) := by decide +kernel
theorem dX6_oddsOf_65 : decode cX6_oddsOf 65 = .ok (.iconst 0, 1) := by decide +kernel
theorem dX6_oddsOf_66 : decode cX6_oddsOf 66 = .ok (.ldc2_w 136, 3) := by decide +kernel
theorem dX6_oddsOf_69 : decode cX6_oddsOf 69 = .ok (.invokevirtual 138, 3) := by decide +kernel
theorem dX6_oddsOf_72 : decode cX6_oddsOf 72 = .ok (.l2i, 1) := by decide +kernel
theorem dX6_oddsOf_73 : decode cX6_oddsOf 73 = .ok (.ireturn, 1) := by decide +kernel
set_option maxHeartbeats 4000000 in
set_option maxRecDepth 100000 in
theorem cJ_oddsOf {μ ν : Mm} (h : JR μ 27 ν) {p : Nat} {ch : Int} (hp : (p : Int) < ν.1 0 25) (hc1 : 0 ≤ ch) (hc2 : ch ≤ 100) : CtE PC 10 yX6_oddsOf cX6_oddsOf 5 (some .int) [vR 77, vR 27, vI ((p : Nat) : Int), vI ch] μ (fun r m => r = odF ν (p : Int) ch (ν.1 0 25).toNat 0 (ν.1 17) 1000000000 ∧ Fr qS μ m) := by
  refine ct_intro [some (vR 77), some (vR 27), some (vI ((p : Nat) : Int)), some (vI ch), none] RX6 (by decide) rfl XCo rfl (Nat.le_of_ble_eq_true rfl) (fun K hO => ?_)
  have hs := h.ob
  have hnp := h.B.np
  have hnt := h.B.nt
  refine aw_aload_n hO dX6_oddsOf_0 rfl rfl ?_
  refine gC_X6_12_77 hO dX6_oddsOf_1 rfl ?_
  refine aw_aload_n hO dX6_oddsOf_4 rfl rfl ?_
  refine aw_callVV (as := [vR 27]) (st := []) hO dX6_oddsOf_5 rfl (lw_t4 175 rfl rfl) kX7_copyFrom (T := TX7) rfl (by decide) rfl (ctC_7_copyFrom μ sob78 sob27) (by decide) rfl rfl rfl (Nat.le_of_ble_eq_true rfl) (fun μ2 hq3 => ?_)
  have e_μ2 := hq3
  have hJc : JR μ2 78 ν := by rw [e_μ2]; exact h.cp
  have hFc : Fr qS μ μ2 := by rw [e_μ2]; exact Fr.rf.cp (fun i => Or.inr (Or.inl rfl)) _ _ _
  refine aw_iconst hO dX6_oddsOf_8 rfl ?_
  refine aw_istore (ls' := [some (vR 77), some (vR 27), some (vI ((p : Nat) : Int)), some (vI ch), some (vI 0)]) hO dX6_oddsOf_9 rfl (Nat.le_of_ble_eq_true rfl) rfl rfl ?_
  have hJ0c : JR0 μ2 ν := hJc.z
  have k39 : ∀ m, ST μ2 78 (onesF (ν.1 17) (ν.1 0 25).toNat) m → AW K 39 [some (vR 77), some (vR 27), some (vI ((p : Nat) : Int)), some (vI ch), none] [] m := by
    intro m hm
    have hJ1 := hJc.to hm (onesF_ok h.B.now _ (by omega))
    refine aw_aload_n hO dX6_oddsOf_39 rfl rfl ?_
    refine gC_X6_33_77 hO dX6_oddsOf_40 rfl ?_
    refine aw_aload_n hO dX6_oddsOf_43 rfl rfl ?_
    refine gC_X6_12_77 hO dX6_oddsOf_44 rfl ?_
    refine aw_aload_n hO dX6_oddsOf_47 rfl rfl ?_
    refine gC_X6_33_77 hO dX6_oddsOf_48 rfl ?_
    refine aw_aload_n hO dX6_oddsOf_51 rfl rfl ?_
    refine gC_X6_12_77 hO dX6_oddsOf_52 rfl ?_
    refine aw_callVI (as := [vR 78]) (st := [vR 78, vR 73]) hO dX6_oddsOf_55 rfl (lw_t4 181 rfl rfl) kX3_inTown (T := TX3) rfl (by decide) rfl (cJ_inTown hJ1) (by omega) rfl rfl rfl (Nat.le_of_ble_eq_true rfl) ?_
    refine aw_callVV (as := [vR 78, vI (inT (wN ν (onesF (ν.1 17) (ν.1 0 25).toNat)))]) (st := []) hO dX6_oddsOf_58 rfl (lw_t4 164 rfl rfl) kX3_weigh (T := TX3) rfl (by decide) rfl (cJ_weigh hJ1 (b := (inT (wN ν (onesF (ν.1 17) (ν.1 0 25).toNat))))) (by omega) rfl rfl rfl (Nat.le_of_ble_eq_true rfl) (fun μ5 hq6 => ?_)
    have hOM : OM ν μ5 := ⟨hJ1.fj hq6.1, fun q hq hna => by rw [hq6.2 q, if_pos ⟨show q < (ν.1 0 25).toNat by omega, by rw [hasB_inT hJ1.B (by omega), wN_17, show onesF (ν.1 17) (ν.1 0 25).toNat 31 = ν.1 17 31 by unfold onesF; rw [if_neg (by omega)], hna]; simp only [Bool.not_false, Bool.and_true, decide_eq_true_eq]; exact hq⟩]⟩
    have hFo : Fr qS μ μ5 := (hFc.tr hm.qs).tr (hq6.1.mono (fun _ _ e => jS_q e))
    refine aw_aload_n hO dX6_oddsOf_61 rfl rfl ?_
    refine aw_iload_n hO dX6_oddsOf_62 rfl rfl ?_
    refine aw_iload_n hO dX6_oddsOf_63 rfl rfl ?_
    refine aw_iconst hO dX6_oddsOf_64 rfl ?_
    refine aw_iconst hO dX6_oddsOf_65 rfl ?_
    refine aw_ldc2 (a := 1000000000) hO dX6_oddsOf_66 rfl (lw_t5 66 rfl rfl) ?_
    refine aw_callVL (as := [vI ((p : Nat) : Int), vI ch, vI ((0 : Nat) : Int), vI 0, vL 1000000000]) (st := []) hO dX6_oddsOf_69 rfl (lw_t5 67 rfl rfl) kX6_partsFor (T := TX6) rfl (by decide) rfl (cJ_partsFor hOM h.G (v := (p : Int)) (ch := ch) ⟨by omega, by omega⟩ hc1 hc2 (ν.1 0 25).toNat 0 0 (ν.1 17) 1000000000 (by omega) ⟨fun q hq => by omega, fun q hq hb => (by rw [hasB_0 hq] at hb; cases hb), fun _ _ => rfl⟩ h.B.now (by omega) (by omega)) (by omega) rfl rfl rfl (Nat.le_of_ble_eq_true rfl) (fun v7 μ8 hq9 => ?_)
    obtain ⟨e_v7, e_μ8⟩ := hq9
    refine aw_meq e_μ8 ?_
    refine aw_l2i hO dX6_oddsOf_72 rfl ?_
    refine aw_iret hO dX6_oddsOf_73 ?_
    exact ⟨_, rfl, e_v7, hFo⟩
  have lp : ∀ (c : Nat) (i : Nat) (m : Mm), ((i : Int) + c = ν.1 0 25) → (ST μ2 78 (onesF (ν.1 17) i) m) → AW K 11 [some (vR 77), some (vR 27), some (vI ((p : Nat) : Int)), some (vI ch), some (vI ((i : Nat) : Int))] [] m := by
    intro c
    induction c with
    | zero =>
      intro i m hi hm
      refine aw_iload hO dX6_oddsOf_11 rfl rfl ?_
      refine aw_aload_n hO dX6_oddsOf_13 rfl rfl ?_
      refine gC_X6_29_77 hO dX6_oddsOf_14 rfl ?_
      refine gC_X6_94_25 hO dX6_oddsOf_17 rfl ?_
      refine aw_cg (ST.j0 hJc.1 hm hJ0c).T.n ?_
      refine aw_icmp_ge (tgt := 39) hO dX6_oddsOf_20 rfl rfl (inRn (by omega)) ⟨by omega, by omega⟩ (fun c20 => ?_) (fun c20 => ?_)
      · refine aw_fg (ls' := [some (vR 77), some (vR 27), some (vI ((p : Nat) : Int)), some (vI ch), none]) ⟨rfl, rfl, rfl, rfl, trivial⟩ ?_
        exact k39 m (by rw [show (ν.1 0 25).toNat = i by omega]; exact hm)
      · exact absurd c20 (by omega)
    | succ c ih =>
      intro i m hi hm
      refine aw_iload hO dX6_oddsOf_11 rfl rfl ?_
      refine aw_aload_n hO dX6_oddsOf_13 rfl rfl ?_
      refine gC_X6_29_77 hO dX6_oddsOf_14 rfl ?_
      refine gC_X6_94_25 hO dX6_oddsOf_17 rfl ?_
      refine aw_cg (ST.j0 hJc.1 hm hJ0c).T.n ?_
      refine aw_icmp_ge (tgt := 39) hO dX6_oddsOf_20 rfl rfl (inRn (by omega)) ⟨by omega, by omega⟩ (fun c20 => ?_) (fun c20 => ?_)
      · exact absurd c20 (by omega)
      · refine aw_aload_n hO dX6_oddsOf_23 rfl rfl ?_
        refine gC_X6_12_77 hO dX6_oddsOf_24 rfl ?_
        refine aw_iload hO dX6_oddsOf_27 rfl rfl ?_
        refine aw_iconst hO dX6_oddsOf_29 rfl ?_
        refine aw_callVV (as := [vI ((i : Nat) : Int), vI 1]) (st := []) hO dX6_oddsOf_30 rfl (lw_t5 62 rfl rfl) kX7_setMeetings (T := TX7) rfl (by decide) rfl (ctC_7_setMeetings m sob78 (p := i) (v := 1) (by omega)) (by decide) rfl rfl rfl (Nat.le_of_ble_eq_true rfl) (fun μ11 hq12 => ?_)
        have e_μ11 := hq12
        refine aw_iinc (ls' := [some (vR 77), some (vR 27), some (vI ((p : Nat) : Int)), some (vI ch), some (vI (((i : Nat) : Int) + 1))]) hO dX6_oddsOf_33 rfl rfl rfl rfl ?_
        refine aw_lsq (ls' := [some (vR 77), some (vR 27), some (vI ((p : Nat) : Int)), some (vI ch), some (vI (((i + 1) : Nat) : Int))]) rfl ?_
        refine aw_goto (tgt := 11) hO dX6_oddsOf_36 rfl ?_
        refine aw_lsq (ls' := [some (vR 77), some (vR 27), some (vI ((p : Nat) : Int)), some (vI ch), some (vI (((i + 1) : Nat) : Int))]) rfl ?_
        exact ih (i + 1) μ11 (by omega) (by rw [← onesF_s, e_μ11]; exact hm.met (by omega) _)
  refine aw_lsq (ls' := [some (vR 77), some (vR 27), some (vI ((p : Nat) : Int)), some (vI ch), some (vI ((0 : Nat) : Int))]) rfl ?_
  exact lp (ν.1 0 25).toNat 0 μ2 (by omega) (by rw [onesF_0]; exact ST.rf hJc.S)
