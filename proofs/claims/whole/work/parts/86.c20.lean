/-! ## the class reads a law -/
def Dr (m : Mm) (X : List Int) : Prop := m.1 9 2 = ((X.length : Nat) : Int) ∧ At (m.1 10) 0 X
def DrB (m : Mm) : Prop := 0 ≤ m.1 9 2 ∧ m.1 9 2 ≤ 240
def dS (k i : Nat) : Prop := tS k i ∨ (k = 9 ∧ i = 2) ∨ k = 10
def addM (m : Mm) (c : Int) : Mm := if m.1 9 2 < 240 then mst (mst m 10 (m.1 9 2).toNat c) 9 2 (m.1 9 2 + 1) else m
def addSg (m : Mm) (s : Int) : Mm := if s = -1 then m else addM m (11000 + s)
theorem TO.ds {g : Nat → Int} {N : Nat} {μ m : Mm} (h : TO g N μ) (hF : Fr dS μ m) : TO g N m := h.fr (hF.1 1 2 (by unfold dS tS; omega)) (hF.fn (fun i => by unfold dS tS; omega)) (hF.fn (fun i => by unfold dS tS; omega))
theorem addM_1 {m : Mm} {c : Int} {k i : Nat} (hk : k ≠ 9) (hk2 : k ≠ 10) : (addM m c).1 k i = m.1 k i := by
  unfold addM
  split
  · rw [mst_nk hk, mst_nk hk2]
  · rfl
theorem addSg_1 {m : Mm} {c : Int} {k i : Nat} (hk : k ≠ 9) (hk2 : k ≠ 10) : (addSg m c).1 k i = m.1 k i := by
  unfold addSg
  split
  · rfl
  · exact addM_1 hk hk2
theorem Fr.dAd {μ m : Mm} (h : Fr dS μ m) (c : Int) : Fr dS μ (addM m c) := by
  show Fr dS μ (if m.1 9 2 < 240 then mst (mst m 10 (m.1 9 2).toNat c) 9 2 (m.1 9 2 + 1) else m)
  split
  · exact (h.st (Or.inr (Or.inr rfl)) _).st (Or.inr (Or.inl ⟨rfl, rfl⟩)) _
  · exact h
theorem Fr.dSg {μ m : Mm} (h : Fr dS μ m) (c : Int) : Fr dS μ (addSg m c) := by
  show Fr dS μ (if c = -1 then m else addM m (11000 + c))
  split
  · exact h
  · exact h.dAd _
theorem DrB.dAd {m : Mm} (h : DrB m) (c : Int) : DrB (addM m c) := by
  show DrB (if m.1 9 2 < 240 then mst (mst m 10 (m.1 9 2).toNat c) 9 2 (m.1 9 2 + 1) else m)
  split
  · unfold DrB at *; rw [mst_eq]; omega
  · exact h
theorem DrB.dSg {m : Mm} (h : DrB m) (c : Int) : DrB (addSg m c) := by
  show DrB (if c = -1 then m else addM m (11000 + c))
  split
  · exact h
  · exact h.dAd _
theorem Dr.B {m : Mm} {X : List Int} (h : Dr m X) (hX : X.length ≤ 240) : DrB m := by unfold DrB; rw [h.1]; omega
theorem Dr.add {m : Mm} {X : List Int} (h : Dr m X) (hX : X.length < 240) (c : Int) : Dr (addM m c) (X ++ [c]) := by
  unfold addM
  rw [if_pos (by rw [h.1]; omega), h.1, Int.toNat_natCast]
  refine ⟨by rw [mst_eq, List.length_append]; simp, At.mk (h.2.of (fun j _ hj => ?_)) ⟨?_, trivial⟩⟩
  · rw [mst_nk (by decide), mst_ni (by omega)]
  · rw [mst_nk (by decide), Nat.zero_add, mst_eq]
theorem Dr.addS {m : Mm} {X : List Int} (h : Dr m X) (hX : X.length < 240) {s : Int} (hs : s ≠ -1) : Dr (addSg m s) (X ++ [11000 + s]) := by
  unfold addSg
  rw [if_neg hs]
  exact h.add hX _
theorem Dr.fr {m m2 : Mm} {X : List Int} (h : Dr m X) (h1 : m2.1 9 2 = m.1 9 2) (h2 : m2.1 10 = m.1 10) : Dr m2 X := ⟨by rw [h1]; exact h.1, by rw [h2]; exact h.2⟩
/-- while a law is read: so far so good; something is wrong -/
def LG (g : Nat → Int) (N : Nat) (μ m : Mm) (p : Nat) (X : List Int) : Prop := Fr dS μ m ∧ TO g N m ∧ m.1 1 3 = (p : Int) ∧ Dr m X
def LB (g : Nat → Int) (N : Nat) (μ m : Mm) (q : Nat) : Prop := Fr dS μ m ∧ TO g N m ∧ m.1 1 3 = (q : Int) ∧ DrB m
def RO (g : Nat → Int) (N : Nat) (μ : Mm) (X : List Int) (x : PR) (r : Int) (m : Mm) : Prop := match x with
  | (q, none) => r = 0 ∧ LB g N μ m q
  | (q, some c) => r = 1 ∧ LG g N μ m q (X ++ c.map enc)
theorem RO_b {g : Nat → Int} {N : Nat} {μ m : Mm} {X : List Int} {x : PR} {r : Int} {q : Nat} (e : x = (q, none)) : RO g N μ X x r m ↔ r = 0 ∧ LB g N μ m q := by rw [e]; exact Iff.rfl
theorem RO_g {g : Nat → Int} {N : Nat} {μ m : Mm} {X : List Int} {x : PR} {r : Int} {q : Nat} {c : List Tok} (e : x = (q, some c)) : RO g N μ X x r m ↔ r = 1 ∧ LG g N μ m q (X ++ c.map enc) := by rw [e]; exact Iff.rfl
theorem RO.z {g : Nat → Int} {N : Nat} {μ m : Mm} {X : List Int} {x : PR} {r : Int} (h : RO g N μ X x r m) : r = 0 ∨ r = 1 := by
  rcases x with ⟨q, _ | c⟩
  · exact Or.inl h.1
  · exact Or.inr h.1
theorem RO.no {g : Nat → Int} {N : Nat} {μ m : Mm} {X : List Int} {x : PR} {r : Int} (h : RO g N μ X x r m) (hr : r = 0) : ∃ q, x = (q, none) ∧ LB g N μ m q := by
  rcases x with ⟨q, _ | c⟩
  · exact ⟨q, rfl, h.2⟩
  · exact absurd (h.1.symm.trans hr) (by decide)
theorem RO.yes {g : Nat → Int} {N : Nat} {μ m : Mm} {X : List Int} {x : PR} {r : Int} (h : RO g N μ X x r m) (hr : r ≠ 0) : ∃ q c, x = (q, some c) ∧ LG g N μ m q (X ++ c.map enc) := by
  rcases x with ⟨q, _ | c⟩
  · exact absurd h.1 hr
  · exact ⟨q, c, rfl, h.2⟩
theorem LG.tk {g : Nat → Int} {N p q : Nat} {μ m : Mm} {X : List Int} (h : LG g N μ m p X) : LG g N μ (mst m 1 3 (q : Int)) q X := ⟨h.1.st (Or.inl ⟨rfl, Or.inl rfl⟩) _, h.2.1.st (by decide) _, mst_eq, h.2.2.2.fr (mst_nk (by decide)) (funext fun _ => mst_nk (by decide))⟩
theorem LG.B {g : Nat → Int} {N p : Nat} {μ m : Mm} {X : List Int} (h : LG g N μ m p X) (hX : X.length ≤ 240) : LB g N μ m p := ⟨h.1, h.2.1, h.2.2.1, h.2.2.2.B hX⟩
theorem LG.ad {g : Nat → Int} {N p : Nat} {μ m : Mm} {X : List Int} (h : LG g N μ m p X) (hX : X.length < 240) (c : Int) : LG g N μ (addM m c) p (X ++ [c]) := ⟨h.1.dAd c, h.2.1.ds (Fr.rf.dAd c), by rw [addM_1 (by decide) (by decide)]; exact h.2.2.1, h.2.2.2.add hX c⟩
theorem LG.sg {g : Nat → Int} {N p : Nat} {μ m : Mm} {X : List Int} (h : LG g N μ m p X) (hX : X.length < 240) {s : Int} (hs : s ≠ -1) : LG g N μ (addSg m s) p (X ++ [11000 + s]) := ⟨h.1.dSg s, h.2.1.ds (Fr.rf.dSg s), by rw [addSg_1 (by decide) (by decide)]; exact h.2.2.1, h.2.2.2.addS hX hs⟩
theorem LB.sg {g : Nat → Int} {N q : Nat} {μ m : Mm} (h : LB g N μ m q) (s : Int) : LB g N μ (addSg m s) q := ⟨h.1.dSg s, h.2.1.ds (Fr.rf.dSg s), by rw [addSg_1 (by decide) (by decide)]; exact h.2.2.1, h.2.2.2.dSg s⟩
theorem LG.tr {g : Nat → Int} {N p : Nat} {a b m : Mm} {X : List Int} (h : LG g N b m p X) (hF : Fr dS a b) : LG g N a m p X := ⟨hF.tr h.1, h.2⟩
theorem LB.tr {g : Nat → Int} {N p : Nat} {a b m : Mm} (h : LB g N b m p) (hF : Fr dS a b) : LB g N a m p := ⟨hF.tr h.1, h.2⟩
theorem RO.tr {g : Nat → Int} {N : Nat} {a b m : Mm} {X : List Int} {x : PR} {r : Int} (h : RO g N b X x r m) (hF : Fr dS a b) : RO g N a X x r m := by
  rcases x with ⟨q, _ | c⟩
  · exact ⟨h.1, h.2.tr hF⟩
  · exact ⟨h.1, h.2.tr hF⟩
theorem dX4_add_0 : decode cX4_add 0 = .ok (.aload_n 0, 1) := by decide +kernel
theorem dX4_add_1 : decode cX4_add 1 = .ok (.getfield 18, 3) := by decide +kernel
theorem dX4_add_4 : decode cX4_add 4 = .ok (.sipush 240, 3) := by decide +kernel
theorem dX4_add_7 : decode cX4_add 7 = .ok (.if_icmp .ge 23, 3) := by decide +kernel
theorem dX4_add_10 : decode cX4_add 10 = .ok (.aload_n 0, 1) := by decide +kernel
theorem dX4_add_11 : decode cX4_add 11 = .ok (.getfield 11, 3) := by decide +kernel
theorem dX4_add_14 : decode cX4_add 14 = .ok (.aload_n 0, 1) := by decide +kernel
theorem dX4_add_15 : decode cX4_add 15 = .ok (.getfield 18, 3) := by decide +kernel
theorem dX4_add_18 : decode cX4_add 18 = .ok (.iload_n 1, 1) := by decide +kernel
theorem dX4_add_19 : decode cX4_add 19 = .ok (.iastore, 1) := by decide +kernel
theorem dX4_add_20 : decode cX4_add 20 = .ok (.aload_n 0, 1) := by decide +kernel
theorem dX4_add_21 : decode cX4_add 21 = .ok (.dup, 1) := by decide +kernel
theorem dX4_add_22 : decode cX4_add 22 = .ok (.getfield 18, 3) := by decide +kernel
theorem dX4_add_25 : decode cX4_add 25 = .ok (.iconst 1, 1) := by decide +kernel
theorem dX4_add_26 : decode cX4_add 26 = .ok (.iadd, 1) := by decide +kernel
theorem dX4_add_27 : decode cX4_add 27 = .ok (.putfield 18, 3) := by decide +kernel
theorem dX4_add_30 : decode cX4_add 30 = .ok (.return_, 1) := by decide +kernel
set_option maxRecDepth 100000 in
theorem gC_X4_18_9 {Q : Option AV → Mm → Prop} {K : KT} {cc : ByteArray} {nL d : Nat} {ret : Option FieldType} {pc n : Nat} {ls : List (Option AV)} {st : List AV} {μ : Mm} (hO : KOk PC Q K cc RX4 nL d ret) (hd : decode cc pc = .ok (.getfield 18, 3)) (hn : pc + 3 = n) (kk : AW K n ls (vI (μ.1 9 2) :: st) μ) : AW K pc ls (vR 9 :: st) μ := aw_get (f := 2) hO hd hn okX4 (by decide) (lw_t1 122 rfl rfl) (by decide) rfl rfl rfl kk
set_option maxRecDepth 100000 in
theorem gC_X4_11_9 {Q : Option AV → Mm → Prop} {K : KT} {cc : ByteArray} {nL d : Nat} {ret : Option FieldType} {pc n : Nat} {ls : List (Option AV)} {st : List AV} {μ : Mm} (hO : KOk PC Q K cc RX4 nL d ret) (hd : decode cc pc = .ok (.getfield 11, 3)) (hn : pc + 3 = n) (kk : AW K n ls (vR 10 :: st) μ) : AW K pc ls (vR 9 :: st) μ := aw_get (f := 0) hO hd hn okX4 (by decide) (lw_t1 120 rfl rfl) (by decide) rfl rfl rfl kk
set_option maxRecDepth 100000 in
theorem pC_X4_18_9 {Q : Option AV → Mm → Prop} {K : KT} {cc : ByteArray} {nL d : Nat} {ret : Option FieldType} {pc n : Nat} {ls : List (Option AV)} {st : List AV} {μ : Mm} {a : Int} (hO : KOk PC Q K cc RX4 nL d ret) (hd : decode cc pc = .ok (.putfield 18, 3)) (hn : pc + 3 = n) (kk : AW K n ls st (mst μ 9 2 a)) : AW K pc ls (vI a :: vR 9 :: st) μ := aw_put (f := 2) hO hd hn okX4 tyX4_ok nmX4 (by decide) (lw_t1 122 rfl rfl) rfl rfl rfl (by decide) rfl rfl kk
set_option maxHeartbeats 4000000 in
set_option maxRecDepth 100000 in
theorem cT_add {μ : Mm} (h : DrB μ) (c : Int) : CtV PC 0 yX4_add cX4_add 2 none [vR 9, vI c] μ (fun m => m = addM μ c) := by
  refine ct_intro [some (vR 9), some (vI c)] RX4 (by decide) rfl XCo rfl (Nat.le_of_ble_eq_true rfl) (fun K hO => ?_)
  obtain ⟨n, hn⟩ : ∃ n : Nat, μ.1 9 2 = (n : Int) := ⟨(μ.1 9 2).toNat, by unfold DrB at h; omega⟩
  unfold DrB at h
  refine aw_aload_n hO dX4_add_0 rfl rfl ?_
  refine gC_X4_18_9 hO dX4_add_1 rfl ?_
  refine aw_cg hn ?_
  refine aw_sipush hO dX4_add_4 rfl (by decide) (by decide) ?_
  refine aw_icmp_ge (tgt := 30) hO dX4_add_7 rfl rfl (inRn (by omega)) (inRlit _) (fun c7 => ?_) (fun c7 => ?_)
  · refine aw_vret hO dX4_add_30 ?_
    exact ⟨rfl, by unfold addM; rw [if_neg (by omega)]⟩
  · refine aw_aload_n hO dX4_add_10 rfl rfl ?_
    refine gC_X4_11_9 hO dX4_add_11 rfl ?_
    refine aw_aload_n hO dX4_add_14 rfl rfl ?_
    refine gC_X4_18_9 hO dX4_add_15 rfl ?_
    refine aw_cg hn ?_
    refine aw_iload_n hO dX4_add_18 rfl rfl ?_
    refine aw_iastn (N := 240) (i := n) hO dX4_add_19 rfl (by decide) rfl (by decide) rfl (by omega) ?_
    refine aw_mm (fun μ1 e_μ1 => ?_)
    refine aw_aload_n hO dX4_add_20 rfl rfl ?_
    refine aw_dup hO dX4_add_21 rfl rfl ?_
    refine gC_X4_18_9 hO dX4_add_22 rfl ?_
    refine aw_cg (show μ1.1 9 2 = (n : Int) by rw [e_μ1, mst_nk (by decide)]; exact hn) ?_
    refine aw_iconst hO dX4_add_25 rfl ?_
    refine aw_iadd hO dX4_add_26 rfl ?_
    refine pC_X4_18_9 hO dX4_add_27 rfl ?_
    refine aw_mm (fun μ2 e_μ2 => ?_)
    refine aw_vret hO dX4_add_30 ?_
    exact ⟨rfl, by unfold addM; rw [if_pos (by omega), hn, Int.toNat_natCast, e_μ2, e_μ1]⟩
theorem dX4_addSign_0 : decode cX4_addSign 0 = .ok (.iload_n 1, 1) := by decide +kernel
theorem dX4_addSign_1 : decode cX4_addSign 1 = .ok (.iconst (-1), 1) := by decide +kernel
theorem dX4_addSign_2 : decode cX4_addSign 2 = .ok (.if_icmp .eq 12, 3) := by decide +kernel
theorem dX4_addSign_5 : decode cX4_addSign 5 = .ok (.aload_n 0, 1) := by decide +kernel
theorem dX4_addSign_6 : decode cX4_addSign 6 = .ok (.sipush 11000, 3) := by decide +kernel
theorem dX4_addSign_9 : decode cX4_addSign 9 = .ok (.iload_n 1, 1) := by decide +kernel
theorem dX4_addSign_10 : decode cX4_addSign 10 = .ok (.iadd, 1) := by decide +kernel
theorem dX4_addSign_11 : decode cX4_addSign 11 = .ok (.invokevirtual 28, 3) := by decide +kernel
theorem dX4_addSign_14 : decode cX4_addSign 14 = .ok (.return_, 1) := by decide +kernel
set_option maxHeartbeats 4000000 in
set_option maxRecDepth 100000 in
theorem cT_addSign {μ : Mm} (h : DrB μ) {c : Int} (hc : InR c) : CtV PC 1 yX4_addSign cX4_addSign 2 none [vR 9, vI c] μ (fun m => m = addSg μ c) := by
  refine ct_intro [some (vR 9), some (vI c)] RX4 (by decide) rfl XCo rfl (Nat.le_of_ble_eq_true rfl) (fun K hO => ?_)
  refine aw_iload_n hO dX4_addSign_0 rfl rfl ?_
  refine aw_iconst hO dX4_addSign_1 rfl ?_
  refine aw_icmp_eq (tgt := 14) hO dX4_addSign_2 rfl rfl hc (inRlit _) (fun c2 => ?_) (fun c2 => ?_)
  · refine aw_vret hO dX4_addSign_14 ?_
    exact ⟨rfl, by unfold addSg; rw [if_pos c2]⟩
  · refine aw_aload_n hO dX4_addSign_5 rfl rfl ?_
    refine aw_sipush hO dX4_addSign_6 rfl (by decide) (by decide) ?_
    refine aw_iload_n hO dX4_addSign_9 rfl rfl ?_
    refine aw_iadd hO dX4_addSign_10 rfl ?_
    refine aw_callVV (as := [vI (11000 + c)]) (st := []) hO dX4_addSign_11 rfl (lw_t3 37 rfl rfl) kX4_add (T := TX4) rfl (by decide) rfl (cT_add h ((11000 + c))) (by decide) rfl rfl rfl (Nat.le_of_ble_eq_true rfl) (fun μ2 hq3 => ?_)
    have e_μ2 := hq3
    refine aw_vret hO dX4_addSign_14 ?_
    exact ⟨rfl, by unfold addSg; rw [if_neg c2, e_μ2]⟩
theorem dX5_isRelation_0 : decode cX5_isRelation 0 = .ok (.iload_n 0, 1) := by decide +kernel
theorem dX5_isRelation_1 : decode cX5_isRelation 1 = .ok (.bipush 61, 2) := by decide +kernel
theorem dX5_isRelation_3 : decode cX5_isRelation 3 = .ok (.if_icmp .eq 15, 3) := by decide +kernel
theorem dX5_isRelation_6 : decode cX5_isRelation 6 = .ok (.iload_n 0, 1) := by decide +kernel
theorem dX5_isRelation_7 : decode cX5_isRelation 7 = .ok (.bipush 60, 2) := by decide +kernel
theorem dX5_isRelation_9 : decode cX5_isRelation 9 = .ok (.if_icmp .eq 9, 3) := by decide +kernel
theorem dX5_isRelation_12 : decode cX5_isRelation 12 = .ok (.iload_n 0, 1) := by decide +kernel
theorem dX5_isRelation_13 : decode cX5_isRelation 13 = .ok (.bipush 62, 2) := by decide +kernel
theorem dX5_isRelation_15 : decode cX5_isRelation 15 = .ok (.if_icmp .ne 7, 3) := by decide +kernel
theorem dX5_isRelation_18 : decode cX5_isRelation 18 = .ok (.iconst 1, 1) := by decide +kernel
theorem dX5_isRelation_19 : decode cX5_isRelation 19 = .ok (.goto 4, 3) := by decide +kernel
theorem dX5_isRelation_22 : decode cX5_isRelation 22 = .ok (.iconst 0, 1) := by decide +kernel
theorem dX5_isRelation_23 : decode cX5_isRelation 23 = .ok (.ireturn, 1) := by decide +kernel
set_option maxHeartbeats 4000000 in
set_option maxRecDepth 100000 in
theorem cT_isRelation (μ : Mm) {c : Int} (hc : InR c) : CtI PC 0 yX5_isRelation cX5_isRelation 1 (some .boolean) [vI c] μ (if (sepR c).isSome = true then 1 else 0) := by
  refine ct_intro [some (vI c)] RX5 (by decide) rfl XCo rfl (Nat.le_of_ble_eq_true rfl) (fun K hO => ?_)
  refine aw_iload_n hO dX5_isRelation_0 rfl rfl ?_
  refine aw_bipush hO dX5_isRelation_1 rfl (by decide) (by decide) ?_
  refine aw_icmp_eq (tgt := 18) hO dX5_isRelation_3 rfl rfl hc (inRlit _) (fun c3 => ?_) (fun c3 => ?_)
  · refine aw_iconst hO dX5_isRelation_18 rfl ?_
    refine aw_goto (tgt := 23) hO dX5_isRelation_19 rfl ?_
    refine aw_zret hO dX5_isRelation_23 (Or.inr rfl) ?_
    exact rI (by unfold sepR; rw [if_pos c3]; rfl)
  · refine aw_iload_n hO dX5_isRelation_6 rfl rfl ?_
    refine aw_bipush hO dX5_isRelation_7 rfl (by decide) (by decide) ?_
    refine aw_icmp_eq (tgt := 18) hO dX5_isRelation_9 rfl rfl hc (inRlit _) (fun c9 => ?_) (fun c9 => ?_)
    · refine aw_iconst hO dX5_isRelation_18 rfl ?_
      refine aw_goto (tgt := 23) hO dX5_isRelation_19 rfl ?_
      refine aw_zret hO dX5_isRelation_23 (Or.inr rfl) ?_
      exact rI (by unfold sepR; rw [if_neg c3, if_pos c9]; rfl)
    · refine aw_iload_n hO dX5_isRelation_12 rfl rfl ?_
      refine aw_bipush hO dX5_isRelation_13 rfl (by decide) (by decide) ?_
      refine aw_icmp_ne (tgt := 22) hO dX5_isRelation_15 rfl rfl hc (inRlit _) (fun c15 => ?_) (fun c15 => ?_)
      · refine aw_iconst hO dX5_isRelation_22 rfl ?_
        refine aw_zret hO dX5_isRelation_23 (Or.inl rfl) ?_
        exact rI (by unfold sepR; rw [if_neg c3, if_neg c9, if_neg c15]; rfl)
      · refine aw_iconst hO dX5_isRelation_18 rfl ?_
        refine aw_goto (tgt := 23) hO dX5_isRelation_19 rfl ?_
        refine aw_zret hO dX5_isRelation_23 (Or.inr rfl) ?_
        exact rI (by unfold sepR; rw [if_neg c3, if_neg c9, if_pos c15]; rfl)
def CR (D : Nat) (y : MethodName) (cc : ByteArray) (maxL : Nat) (as : List AV) (S : (Nat → Int) → Nat → PR) : Prop := ∀ (μ : Mm) (g : Nat → Int) (N p : Nat) (X : List Int), TO g N μ → μ.1 1 3 = (p : Int) → p ≤ N → sk g p = p → Dr μ X → X.length ≤ p → CtE PC D y cc maxL (some .boolean) as μ (fun r m => RO g N μ X (S g p) r m)
theorem dX5_readAtom_0 : decode cX5_readAtom 0 = .ok (.aload_n 0, 1) := by decide +kernel
theorem dX5_readAtom_1 : decode cX5_readAtom 1 = .ok (.getfield 18, 3) := by decide +kernel
theorem dX5_readAtom_4 : decode cX5_readAtom 4 = .ok (.invokevirtual 42, 3) := by decide +kernel
theorem dX5_readAtom_7 : decode cX5_readAtom 7 = .ok (.istore_n 2, 1) := by decide +kernel
theorem dX5_readAtom_8 : decode cX5_readAtom 8 = .ok (.iload_n 2, 1) := by decide +kernel
theorem dX5_readAtom_9 : decode cX5_readAtom 9 = .ok (.bipush 91, 2) := by decide +kernel
theorem dX5_readAtom_11 : decode cX5_readAtom 11 = .ok (.if_icmp .ne 49, 3) := by decide +kernel
theorem dX5_readAtom_14 : decode cX5_readAtom 14 = .ok (.iload_n 1, 1) := by decide +kernel
theorem dX5_readAtom_15 : decode cX5_readAtom 15 = .ok (.bipush 6, 2) := by decide +kernel
theorem dX5_readAtom_17 : decode cX5_readAtom 17 = .ok (.if_icmp .ge 41, 3) := by decide +kernel
theorem dX5_readAtom_20 : decode cX5_readAtom 20 = .ok (.aload_n 0, 1) := by decide +kernel
theorem dX5_readAtom_21 : decode cX5_readAtom 21 = .ok (.getfield 18, 3) := by decide +kernel
theorem dX5_readAtom_24 : decode cX5_readAtom 24 = .ok (.bipush 91, 2) := by decide +kernel
theorem dX5_readAtom_26 : decode cX5_readAtom 26 = .ok (.invokevirtual 38, 3) := by decide +kernel
theorem dX5_readAtom_29 : decode cX5_readAtom 29 = .ok (.ifCond .eq 29, 3) := by decide +kernel
theorem dX5_readAtom_32 : decode cX5_readAtom 32 = .ok (.aload_n 0, 1) := by decide +kernel
theorem dX5_readAtom_33 : decode cX5_readAtom 33 = .ok (.iload_n 1, 1) := by decide +kernel
theorem dX5_readAtom_34 : decode cX5_readAtom 34 = .ok (.iconst 1, 1) := by decide +kernel
theorem dX5_readAtom_35 : decode cX5_readAtom 35 = .ok (.iadd, 1) := by decide +kernel
theorem dX5_readAtom_36 : decode cX5_readAtom 36 = .ok (.invokevirtual 46, 3) := by decide +kernel
theorem dX5_readAtom_39 : decode cX5_readAtom 39 = .ok (.ifCond .eq 19, 3) := by decide +kernel
theorem dX5_readAtom_42 : decode cX5_readAtom 42 = .ok (.aload_n 0, 1) := by decide +kernel
theorem dX5_readAtom_43 : decode cX5_readAtom 43 = .ok (.getfield 18, 3) := by decide +kernel
theorem dX5_readAtom_46 : decode cX5_readAtom 46 = .ok (.bipush 93, 2) := by decide +kernel
theorem dX5_readAtom_48 : decode cX5_readAtom 48 = .ok (.invokevirtual 38, 3) := by decide +kernel
theorem dX5_readAtom_51 : decode cX5_readAtom 51 = .ok (.ifCond .eq 7, 3) := by decide +kernel
theorem dX5_readAtom_54 : decode cX5_readAtom 54 = .ok (.iconst 1, 1) := by decide +kernel
theorem dX5_readAtom_55 : decode cX5_readAtom 55 = .ok (.goto 4, 3) := by decide +kernel
theorem dX5_readAtom_58 : decode cX5_readAtom 58 = .ok (.iconst 0, 1) := by decide +kernel
theorem dX5_readAtom_59 : decode cX5_readAtom 59 = .ok (.ireturn, 1) := by decide +kernel
theorem dX5_readAtom_60 : decode cX5_readAtom 60 = .ok (.iload_n 2, 1) := by decide +kernel
theorem dX5_readAtom_61 : decode cX5_readAtom 61 = .ok (.iconst (-1), 1) := by decide +kernel
theorem dX5_readAtom_62 : decode cX5_readAtom 62 = .ok (.if_icmp .ne 7, 3) := by decide +kernel
theorem dX5_readAtom_65 : decode cX5_readAtom 65 = .ok (.iconst (-1), 1) := by decide +kernel
theorem dX5_readAtom_66 : decode cX5_readAtom 66 = .ok (.goto 10, 3) := by decide +kernel
theorem dX5_readAtom_69 : decode cX5_readAtom 69 = .ok (.ldc 73, 2) := by decide +kernel
theorem dX5_readAtom_71 : decode cX5_readAtom 71 = .ok (.iload_n 2, 1) := by decide +kernel
theorem dX5_readAtom_72 : decode cX5_readAtom 72 = .ok (.i2c, 1) := by decide +kernel
theorem dX5_readAtom_73 : decode cX5_readAtom 73 = .ok (.invokevirtual 75, 3) := by decide +kernel
theorem dX5_readAtom_76 : decode cX5_readAtom 76 = .ok (.istore_n 3, 1) := by decide +kernel
theorem dX5_readAtom_77 : decode cX5_readAtom 77 = .ok (.iload_n 3, 1) := by decide +kernel
theorem dX5_readAtom_78 : decode cX5_readAtom 78 = .ok (.ifCond .lt 27, 3) := by decide +kernel
theorem dX5_readAtom_81 : decode cX5_readAtom 81 = .ok (.aload_n 0, 1) := by decide +kernel
theorem dX5_readAtom_82 : decode cX5_readAtom 82 = .ok (.getfield 18, 3) := by decide +kernel
theorem dX5_readAtom_85 : decode cX5_readAtom 85 = .ok (.iload_n 2, 1) := by decide +kernel
theorem dX5_readAtom_86 : decode cX5_readAtom 86 = .ok (.i2c, 1) := by decide +kernel
theorem dX5_readAtom_87 : decode cX5_readAtom 87 = .ok (.invokevirtual 38, 3) := by decide +kernel
theorem dX5_readAtom_90 : decode cX5_readAtom 90 = .ok (.pop, 1) := by decide +kernel
theorem dX5_readAtom_91 : decode cX5_readAtom 91 = .ok (.aload_n 0, 1) := by decide +kernel
theorem dX5_readAtom_92 : decode cX5_readAtom 92 = .ok (.getfield 12, 3) := by decide +kernel
theorem dX5_readAtom_95 : decode cX5_readAtom 95 = .ok (.sipush 10000, 3) := by decide +kernel
theorem dX5_readAtom_98 : decode cX5_readAtom 98 = .ok (.iload_n 3, 1) := by decide +kernel
theorem dX5_readAtom_99 : decode cX5_readAtom 99 = .ok (.iadd, 1) := by decide +kernel
theorem dX5_readAtom_100 : decode cX5_readAtom 100 = .ok (.invokevirtual 53, 3) := by decide +kernel
theorem dX5_readAtom_103 : decode cX5_readAtom 103 = .ok (.iconst 1, 1) := by decide +kernel
theorem dX5_readAtom_104 : decode cX5_readAtom 104 = .ok (.ireturn, 1) := by decide +kernel
theorem dX5_readAtom_105 : decode cX5_readAtom 105 = .ok (.aload_n 0, 1) := by decide +kernel
theorem dX5_readAtom_106 : decode cX5_readAtom 106 = .ok (.getfield 18, 3) := by decide +kernel
theorem dX5_readAtom_109 : decode cX5_readAtom 109 = .ok (.iconst 4, 1) := by decide +kernel
theorem dX5_readAtom_110 : decode cX5_readAtom 110 = .ok (.invokevirtual 81, 3) := by decide +kernel
theorem dX5_readAtom_113 : decode cX5_readAtom 113 = .ok (.istore 4, 2) := by decide +kernel
theorem dX5_readAtom_115 : decode cX5_readAtom 115 = .ok (.iload 4, 2) := by decide +kernel
theorem dX5_readAtom_117 : decode cX5_readAtom 117 = .ok (.iconst (-1), 1) := by decide +kernel
theorem dX5_readAtom_118 : decode cX5_readAtom 118 = .ok (.if_icmp .ne 5, 3) := by decide +kernel
theorem dX5_readAtom_121 : decode cX5_readAtom 121 = .ok (.iconst 0, 1) := by decide +kernel
theorem dX5_readAtom_122 : decode cX5_readAtom 122 = .ok (.ireturn, 1) := by decide +kernel
theorem dX5_readAtom_123 : decode cX5_readAtom 123 = .ok (.aload_n 0, 1) := by decide +kernel
theorem dX5_readAtom_124 : decode cX5_readAtom 124 = .ok (.getfield 12, 3) := by decide +kernel
theorem dX5_readAtom_127 : decode cX5_readAtom 127 = .ok (.iload 4, 2) := by decide +kernel
theorem dX5_readAtom_129 : decode cX5_readAtom 129 = .ok (.invokevirtual 53, 3) := by decide +kernel
theorem dX5_readAtom_132 : decode cX5_readAtom 132 = .ok (.iconst 1, 1) := by decide +kernel
theorem dX5_readAtom_133 : decode cX5_readAtom 133 = .ok (.ireturn, 1) := by decide +kernel
theorem letV_D {c : Int} (h : isD c) : letV c = -1 := by
  unfold isD at h
  unfold letV
  rw [if_neg (by omega), if_neg (by omega), if_neg (by omega), if_neg (by omega), if_neg (by omega), if_neg (by omega)]
section
variable {g : Nat → Int} {r p q : Nat} {S : Nat → PR}
theorem pAtC_db (h : isD (g p)) (e : pDg g 4 p 0 = (q, none)) : pAt g r S p = (q, none) := by unfold pAt; rw [if_pos h, e]
theorem pAtC_dg {v : Int} (h : isD (g p)) (e : pDg g 4 p 0 = (q, some v)) : pAt g r S p = (sk g q, some [(0, v)]) := by unfold pAt; rw [if_pos h, e]
theorem pAtC_l {v : Int} (h : ¬ isD (g p)) (h2 : letV (g p) ≠ -1) (e : v = letV (g p)) : pAt g r S p = (sk g (p + 1), some [(1, letV (g p))]) := by unfold pAt; rw [if_neg h, if_pos h2]
theorem pAtC_o (h : g p = 91) : pAt g r S p = if r = 0 then (p, none) else shut g 93 (S (sk g (p + 1))) := by
  unfold pAt
  rw [if_neg (by rw [h]; unfold isD; omega), if_neg (by rw [h]; decide), if_pos h]
theorem pAtC_n (h : ¬ isD (g p)) (h2 : letV (g p) = -1) (h3 : g p ≠ 91) : pAt g r S p = (p, none) := by unfold pAt; rw [if_neg h, if_neg (fun q => q h2), if_neg h3]
end
set_option maxRecDepth 100000 in
theorem gC_X5_18_8 {Q : Option AV → Mm → Prop} {K : KT} {cc : ByteArray} {nL d : Nat} {ret : Option FieldType} {pc n : Nat} {ls : List (Option AV)} {st : List AV} {μ : Mm} (hO : KOk PC Q K cc RX5 nL d ret) (hd : decode cc pc = .ok (.getfield 18, 3)) (hn : pc + 3 = n) (kk : AW K n ls (vR 1 :: st) μ) : AW K pc ls (vR 8 :: st) μ := aw_get (f := 0) hO hd hn okX5 (by decide) (lw_t1 131 rfl rfl) (by decide) rfl rfl rfl kk
set_option maxRecDepth 100000 in
theorem gC_X5_12_8 {Q : Option AV → Mm → Prop} {K : KT} {cc : ByteArray} {nL d : Nat} {ret : Option FieldType} {pc n : Nat} {ls : List (Option AV)} {st : List AV} {μ : Mm} (hO : KOk PC Q K cc RX5 nL d ret) (hd : decode cc pc = .ok (.getfield 12, 3)) (hn : pc + 3 = n) (kk : AW K n ls (vR 9 :: st) μ) : AW K pc ls (vR 8 :: st) μ := aw_get (f := 1) hO hd hn okX5 (by decide) (lw_t1 132 rfl rfl) (by decide) rfl rfl rfl kk
set_option maxHeartbeats 4000000 in
set_option maxRecDepth 100000 in
theorem cT_readAtom0 {r d D : Nat} {S : (Nat → Int) → Nat → PR} (hr : d + r = 6) (hD : 4 ≤ D) (hGS : r ≠ 0 → ∀ {g : Nat → Int} {N : Nat}, Gok g N → ∀ q, q ≤ N → (∀ q2, S g q = (q2, none) → q ≤ q2 ∧ q2 ≤ N) ∧ (∀ q2 c, S g q = (q2, some c) → q < q2 ∧ q2 ≤ N ∧ sk g q2 = q2 ∧ q + c.length ≤ q2)) (hS : r ≠ 0 → CR (D - 1) yX5_readSum cX5_readSum 6 [vR 8, vI ((d + 1 : Nat) : Int)] S) : CR D yX5_readAtom cX5_readAtom 5 [vR 8, vI ((d : Nat) : Int)] (fun g => pAt g r (S g)) := by
  intro μ g N p X h ha haN hsp hX hXp
  refine ct_intro [some (vR 8), some (vI ((d : Nat) : Int)), none, none, none] RX5 (by decide) rfl XCo rfl (Nat.le_of_ble_eq_true rfl) (fun K hO => ?_)
  have hG := h.G
  have hN := hG.1
  have hgr := hG.rng p
  have hLG : LG g N μ μ p X := ⟨Fr.rf, h, ha, hX⟩
  have hLB : LB g N μ μ p := hLG.B (by omega)
  have j76 : ∀ z : Int, z = letV (g p) → g p ≠ 91 → AW K 76 [some (vR 8), some (vI ((d : Nat) : Int)), some (vI (g p)), none, none] [vI z] μ := by
    intro z hz h91
    have hzr := letV_rng (g p)
    rw [← hz] at hzr
    refine aw_istore_n (ls' := [some (vR 8), some (vI ((d : Nat) : Int)), some (vI (g p)), some (vI z), none]) hO dX5_readAtom_76 rfl (Nat.le_of_ble_eq_true rfl) rfl rfl ?_
    refine aw_iload_n hO dX5_readAtom_77 rfl rfl ?_
    refine aw_if_lt (tgt := 105) hO dX5_readAtom_78 rfl rfl ⟨by omega, by omega⟩ (fun c78 => ?_) (fun c78 => ?_)
    · refine aw_aload_n hO dX5_readAtom_105 rfl rfl ?_
      refine gC_X5_18_8 hO dX5_readAtom_106 rfl ?_
      refine aw_iconst hO dX5_readAtom_109 rfl ?_
      refine aw_callVE (as := [vI ((4 : Nat) : Int)]) (st := []) hO dX5_readAtom_110 rfl (lw_t3 32 rfl rfl) kX8_number (T := TX8) rfl (by decide) rfl (cT_number h ha haN (k := 4) (by decide)) (by omega) rfl rfl rfl (Nat.le_of_ble_eq_true rfl) (fun v1 μ2 hq3 => ?_)
      obtain ⟨hF2, hN1, hN2⟩ := hq3
      obtain ⟨dq, dv, hdg⟩ : ∃ dq dv, pDg g 4 p 0 = (dq, dv) := ⟨_, _, rfl⟩
      have hdG := pDg_G hG 4 p 0 haN (by omega)
      have hvr : -1 ≤ v1 ∧ v1 ≤ 9999 := by
        cases dv with
        | none => have := (hN1 dq hdg).1; omega
        | some y => have h1 := hN2 dq y hdg; have h2 := hdG.2 dq y hdg; by_cases e : dq = p; have := (h1.1 e).1; omega; have := (h1.2 e).1; omega
      have hdr2 : Dr μ2 X := hX.fr (hF2.1 9 2 (by unfold tS; omega)) (hF2.fn (fun i => by unfold tS; omega))
      have hFd : Fr dS μ μ2 := hF2.mono (fun _ _ e => Or.inl e)
      refine aw_istore (ls' := [some (vR 8), some (vI ((d : Nat) : Int)), some (vI (g p)), some (vI z), some (vI v1)]) hO dX5_readAtom_113 rfl (Nat.le_of_ble_eq_true rfl) rfl rfl ?_
      refine aw_iload hO dX5_readAtom_115 rfl rfl ?_
      refine aw_iconst hO dX5_readAtom_117 rfl ?_
      refine aw_icmp_ne (tgt := 123) hO dX5_readAtom_118 rfl rfl ⟨by omega, by omega⟩ (inRlit _) (fun c118 => ?_) (fun c118 => ?_)
      · refine aw_aload_n hO dX5_readAtom_123 rfl rfl ?_
        refine gC_X5_12_8 hO dX5_readAtom_124 rfl ?_
        refine aw_iload hO dX5_readAtom_127 rfl rfl ?_
        refine aw_callVV (as := [vI v1]) (st := []) hO dX5_readAtom_129 rfl (lw_t3 28 rfl rfl) kX4_add (T := TX4) rfl (by decide) rfl (cT_add (hdr2.B (by omega)) (v1)) (by omega) rfl rfl rfl (Nat.le_of_ble_eq_true rfl) (fun μ5 hq6 => ?_)
        have e_μ5 := hq6
        refine aw_iconst hO dX5_readAtom_132 rfl ?_
        refine aw_zret hO dX5_readAtom_133 (Or.inr rfl) ?_
        have hdq : dq ≠ p ∧ pDg g 4 p 0 = (dq, some v1) ∧ μ2.1 1 3 = ((sk g dq : Nat) : Int) := by
          cases dv with
          | none => exact absurd (hN1 dq hdg).1 c118
          | some y =>
            have h1 := hN2 dq y hdg
            by_cases e : dq = p
            · exact absurd (h1.1 e).1 c118
            · obtain ⟨k1, k2, k3⟩ := h1.2 e
              exact ⟨e, by rw [hdg, k1], k2⟩
        have h2 := hdG.2 dq _ hdq.2.1
        have hd : isD (g p) := h2.2.2.2.2.2.resolve_left hdq.1
        have hL2 : LG g N μ μ2 (sk g dq) X := ⟨hFd, h.ds hFd, hdq.2.2, hdr2⟩
        exact ⟨_, rfl, (RO_g (pAtC_dg hd hdq.2.1)).mpr ⟨rfl, by rw [e_μ5]; exact hL2.ad (by omega) _⟩⟩
      · refine aw_iconst hO dX5_readAtom_121 rfl ?_
        refine aw_zret hO dX5_readAtom_122 (Or.inl rfl) ?_
        by_cases hd : isD (g p)
        · cases dv with
          | none => exact ⟨_, rfl, (RO_b (pAtC_db hd hdg)).mpr ⟨rfl, hFd, h.ds hFd, (hN1 dq hdg).2, hdr2.B (by omega)⟩⟩
          | some y =>
            have h1 := hN2 dq y hdg
            by_cases e : dq = p
            · rw [pDg_t hd] at hdg
              have hltp := hG.lt (p := p) (by unfold isD at hd; omega)
              have := (pDg_G hG 3 (p + 1) _ (by omega) (by unfold isD at hd; omega)).2 dq y hdg
              omega
            · have := (h1.2 e).1
              have := hdG.2 dq y hdg
              omega
        · rw [pDg_s hd] at hN2
          have h1 := (hN2 p 0 rfl).1 rfl
          exact ⟨_, rfl, (RO_b (pAtC_n hd (by omega) h91)).mpr ⟨rfl, hFd, h.ds hFd, h1.2, hdr2.B (by omega)⟩⟩
    · have hlt := hG.lt (p := p) (letV_e (by rw [← hz]; omega))
      have hgp := hG.2.1 p hlt
      have hnd : ¬ isD (g p) := fun e => by have := letV_D e; omega
      refine aw_aload_n hO dX5_readAtom_81 rfl rfl ?_
      refine gC_X5_18_8 hO dX5_readAtom_82 rfl ?_
      refine aw_iload_n hO dX5_readAtom_85 rfl rfl ?_
      refine aw_i2c hO dX5_readAtom_86 rfl (by omega) (by omega) ?_
      refine aw_callVE (as := [vI (g p)]) (st := []) hO dX5_readAtom_87 rfl (lw_t3 16 rfl rfl) kX8_takes (T := TX8) rfl (by decide) rfl (cT_takes h ha haN (c := g p) (by omega) (by omega)) (by omega) rfl rfl rfl (Nat.le_of_ble_eq_true rfl) (fun v7 μ8 hq9 => ?_)
      obtain ⟨e_v7, e_μ8⟩ := hq9
      rw [if_pos rfl] at e_μ8
      have hLt : LG g N μ μ8 (sk g (p + 1)) X := by rw [e_μ8]; exact hLG.tk
      refine aw_pop hO dX5_readAtom_90 rfl rfl ?_
      refine aw_aload_n hO dX5_readAtom_91 rfl rfl ?_
      refine gC_X5_12_8 hO dX5_readAtom_92 rfl ?_
      refine aw_sipush hO dX5_readAtom_95 rfl (by decide) (by decide) ?_
      refine aw_iload_n hO dX5_readAtom_98 rfl rfl ?_
      refine aw_iadd hO dX5_readAtom_99 rfl ?_
      refine aw_callVV (as := [vI (10000 + z)]) (st := []) hO dX5_readAtom_100 rfl (lw_t3 28 rfl rfl) kX4_add (T := TX4) rfl (by decide) rfl (cT_add (hLt.2.2.2.B (by omega)) ((10000 + z))) (by omega) rfl rfl rfl (Nat.le_of_ble_eq_true rfl) (fun μ11 hq12 => ?_)
      have e_μ11 := hq12
      refine aw_iconst hO dX5_readAtom_103 rfl ?_
      refine aw_zret hO dX5_readAtom_104 (Or.inr rfl) ?_
      exact ⟨_, rfl, (RO_g (pAtC_l hnd (by omega) rfl)).mpr ⟨rfl, by rw [e_μ11, show [(1, letV (g p))].map enc = [10000 + z] by rw [← hz]; rfl]; exact hLt.ad (by omega) _⟩⟩
  refine aw_aload_n hO dX5_readAtom_0 rfl rfl ?_
  refine gC_X5_18_8 hO dX5_readAtom_1 rfl ?_
  refine aw_callVI (as := []) (st := []) hO dX5_readAtom_4 rfl (lw_t3 17 rfl rfl) kX8_sign (T := TX8) rfl (by decide) rfl (cT_sign h.1 ha haN) (by omega) rfl rfl rfl (Nat.le_of_ble_eq_true rfl) ?_
  refine aw_istore_n (ls' := [some (vR 8), some (vI ((d : Nat) : Int)), some (vI (g p)), none, none]) hO dX5_readAtom_7 rfl (Nat.le_of_ble_eq_true rfl) rfl rfl ?_
  refine aw_iload_n hO dX5_readAtom_8 rfl rfl ?_
  refine aw_bipush hO dX5_readAtom_9 rfl (by decide) (by decide) ?_
  refine aw_icmp_ne (tgt := 60) hO dX5_readAtom_11 rfl rfl ⟨by omega, by omega⟩ (inRlit _) (fun c11 => ?_) (fun c11 => ?_)
  · refine aw_iload_n hO dX5_readAtom_60 rfl rfl ?_
    refine aw_iconst hO dX5_readAtom_61 rfl ?_
    refine aw_icmp_ne (tgt := 69) hO dX5_readAtom_62 rfl rfl ⟨by omega, by omega⟩ (inRlit _) (fun c62 => ?_) (fun c62 => ?_)
    · refine aw_ldcS (i := 1) (ix := 73) (tx := "ckvmhy") hO dX5_readAtom_69 rfl (fun q A U h => h.2.1.2) ?_
      refine aw_stq (st' := [vR 93]) rfl ?_
      refine aw_iload_n hO dX5_readAtom_71 rfl rfl ?_
      refine aw_i2c hO dX5_readAtom_72 rfl (by omega) (by omega) ?_
      refine aw_callVOI (as := [vI (g p)]) (st := []) hO dX5_readAtom_73 rfl (lw_t3 27 rfl rfl) kJ0_indexOf_0f7a4 (by decide : 1 < 2) rfl (ctC_letter μ (c := g p) (by omega) (by omega)) (by omega) rfl rfl rfl (Nat.le_of_ble_eq_true rfl) ?_
      exact j76 _ rfl c11
    · refine aw_iconst hO dX5_readAtom_65 rfl ?_
      refine aw_goto (tgt := 76) hO dX5_readAtom_66 rfl ?_
      exact j76 _ (show (-1 : Int) = letV (g p) by rw [c62]; rfl) c11
  · refine aw_iload_n hO dX5_readAtom_14 rfl rfl ?_
    refine aw_bipush hO dX5_readAtom_15 rfl (by decide) (by decide) ?_
    refine aw_icmp_ge (tgt := 58) hO dX5_readAtom_17 rfl rfl (inRn (by omega)) (inRlit _) (fun c17 => ?_) (fun c17 => ?_)
    · refine aw_iconst hO dX5_readAtom_58 rfl ?_
      refine aw_zret hO dX5_readAtom_59 (Or.inl rfl) ?_
      exact ⟨_, rfl, (RO_b (by show pAt g r (S g) p = _; rw [pAtC_o c11, if_pos (by omega)])).mpr ⟨rfl, hLB⟩⟩
    · refine aw_aload_n hO dX5_readAtom_20 rfl rfl ?_
      refine gC_X5_18_8 hO dX5_readAtom_21 rfl ?_
      refine aw_bipush hO dX5_readAtom_24 rfl (by decide) (by decide) ?_
      refine aw_callVE (as := [vI 91]) (st := []) hO dX5_readAtom_26 rfl (lw_t3 16 rfl rfl) kX8_takes (T := TX8) rfl (by decide) rfl (cT_takes h ha haN (c := 91) (by omega) (by omega)) (by omega) rfl rfl rfl (Nat.le_of_ble_eq_true rfl) (fun v13 μ14 hq15 => ?_)
      obtain ⟨e_v13, e_μ14⟩ := hq15
      rw [if_pos c11] at e_v13 e_μ14
      have hLt : LG g N μ μ14 (sk g (p + 1)) X := by rw [e_μ14]; exact hLG.tk
      have hlt := hG.lt (p := p) (by omega)
      have hPN := sk_le hG (p := p + 1) (by omega)
      have hP1 := sk_ge g (p + 1)
      refine aw_if_eq (tgt := 58) hO dX5_readAtom_29 rfl rfl ⟨by omega, by omega⟩ (fun c29 => ?_) (fun c29 => ?_)
      · refine aw_iconst hO dX5_readAtom_58 rfl ?_
        refine aw_zret hO dX5_readAtom_59 (Or.inl rfl) ?_
        exact absurd c29 (by rw [e_v13]; decide)
      · refine aw_aload_n hO dX5_readAtom_32 rfl rfl ?_
        refine aw_iload_n hO dX5_readAtom_33 rfl rfl ?_
        refine aw_iconst hO dX5_readAtom_34 rfl ?_
        refine aw_iadd hO dX5_readAtom_35 rfl ?_
        refine aw_callVE (as := [vI (((d + 1) : Nat) : Int)]) (st := []) hO dX5_readAtom_36 rfl (lw_t3 18 rfl rfl) kX5_readSum (T := TX5) rfl (by decide) rfl (hS (by omega) μ14 g N (sk g (p + 1)) X hLt.2.1 hLt.2.2.1 hPN (sk_sk hG _) hLt.2.2.2 (by omega)) (by omega) rfl rfl rfl (Nat.le_of_ble_eq_true rfl) (fun v16 μ17 hq18 => ?_)
        have hRs := RO.tr hq18 hLt.1
        have hvz := hRs.z
        refine aw_if_eq (tgt := 58) hO dX5_readAtom_39 rfl rfl ⟨by omega, by omega⟩ (fun c39 => ?_) (fun c39 => ?_)
        · refine aw_iconst hO dX5_readAtom_58 rfl ?_
          refine aw_zret hO dX5_readAtom_59 (Or.inl rfl) ?_
          obtain ⟨sq, hsq, hLs⟩ := hRs.no c39
          exact ⟨_, rfl, (RO_b (q := sq) (by show pAt g r (S g) p = _; rw [pAtC_o c11, if_neg (by omega), hsq, shut_b])).mpr ⟨rfl, hLs⟩⟩
        · obtain ⟨sq, sc, hsq, hLs⟩ := hRs.yes c39
          have hsG := (hGS (by omega) hG (sk g (p + 1)) hPN).2 sq sc hsq
          have hsqN : sq ≤ N := hsG.2.1
          refine aw_aload_n hO dX5_readAtom_42 rfl rfl ?_
          refine gC_X5_18_8 hO dX5_readAtom_43 rfl ?_
          refine aw_bipush hO dX5_readAtom_46 rfl (by decide) (by decide) ?_
          refine aw_callVE (as := [vI 93]) (st := []) hO dX5_readAtom_48 rfl (lw_t3 16 rfl rfl) kX8_takes (T := TX8) rfl (by decide) rfl (cT_takes hLs.2.1 hLs.2.2.1 hsqN (c := 93) (by omega) (by omega)) (by omega) rfl rfl rfl (Nat.le_of_ble_eq_true rfl) (fun v19 μ20 hq21 => ?_)
          obtain ⟨e_v19, e_μ20⟩ := hq21
          refine aw_if_eq (tgt := 58) hO dX5_readAtom_51 rfl rfl ⟨by omega, by omega⟩ (fun c51 => ?_) (fun c51 => ?_)
          · refine aw_iconst hO dX5_readAtom_58 rfl ?_
            refine aw_zret hO dX5_readAtom_59 (Or.inl rfl) ?_
            have h93 : ¬ g sq = 93 := fun e => by rw [if_pos e] at e_v19; omega
            rw [if_neg h93] at e_μ20
            exact ⟨_, rfl, (RO_b (q := sq) (by show pAt g r (S g) p = _; rw [pAtC_o c11, if_neg (by omega), hsq, shut_n h93])).mpr ⟨rfl, by rw [e_μ20]; exact hLs.B (by rw [List.length_append, List.length_map]; omega)⟩⟩
          · refine aw_iconst hO dX5_readAtom_54 rfl ?_
            refine aw_goto (tgt := 59) hO dX5_readAtom_55 rfl ?_
            refine aw_zret hO dX5_readAtom_59 (Or.inr rfl) ?_
            have h93 : g sq = 93 := by by_cases e : g sq = 93; exact e; rw [if_neg e] at e_v19; exact absurd e_v19 c51
            rw [if_pos h93] at e_μ20
            exact ⟨_, rfl, (RO_g (q := sk g (sq + 1)) (c := sc) (by show pAt g r (S g) p = _; rw [pAtC_o c11, if_neg (by omega), hsq, shut_g h93])).mpr ⟨rfl, by rw [e_μ20]; exact hLs.tk⟩⟩
