/-! ## the class's tape takes bytes -/
def btw (w : Int) (k : Nat) : Int := bAnd (bShr w (24 - 8 * ((k : Int) % 4))) 255
theorem iI_255 : iI 255 = 255 := by decide +kernel
theorem b255_eq {x y : Int32} (h : ∀ i, i < 8 → bt x i = bt y i) : x &&& 255 = y &&& 255 := b_ext (fun i hi => by
  rw [b_and, b_and, b_255]
  by_cases e : i < 8
  · rw [h i e]
  · simp [e])
theorem btw_us {w : Int} {k : Nat} (hk : k < 4) : bAnd (bUsh w (24 - 8 * (k : Int))) 255 = btw w k := by
  unfold btw bAnd
  have e1 : 24 - 8 * (k : Int) = ((24 - 8 * k : Nat) : Int) := by omega
  have e2 : 24 - 8 * ((k : Int) % 4) = ((24 - 8 * k : Nat) : Int) := by omega
  rw [bUsh_iI, bShr_iI, e1, e2, iI_nI, iI_255]
  refine congrArg Int32.toInt (b255_eq (fun i hi => ?_))
  rw [b_ushr _ (by omega), b_sshr _ (by omega) _ (by omega), if_pos (by omega)]
theorem and255_rng (x : Int32) : 0 ≤ (x &&& 255).toInt ∧ (x &&& 255).toInt ≤ 255 := by
  have e : (x &&& 255).toBitVec = ((x.toBitVec.extractLsb' 0 8).zeroExtend 32) := by
    refine BitVec.eq_of_getLsbD_eq (fun i hi => ?_)
    have h1 := b_and x 255 i
    rw [b_255] at h1
    unfold bt at h1
    rw [h1, BitVec.zeroExtend_eq_setWidth, BitVec.getLsbD_setWidth, BitVec.getLsbD_extractLsb']
    by_cases e : i < 8
    · simp [hi, e]
    · simp [e]
  have h2 : (x &&& 255).toBitVec.toNat < 256 := by
    rw [e, BitVec.zeroExtend_eq_setWidth, BitVec.toNat_setWidth]
    exact Nat.lt_of_le_of_lt (Nat.mod_le _ _) (BitVec.isLt _)
  have h3 : (x &&& 255).toInt = ((x &&& 255).toBitVec.toNat : Int) := by
    show (x &&& 255).toBitVec.toInt = _
    rw [BitVec.toInt_eq_toNat_cond, if_pos (by omega)]
  omega
theorem btw_rng (w : Int) (k : Nat) : 0 ≤ btw w k ∧ btw w k ≤ 255 := by
  unfold btw bAnd
  rw [iI_255]
  exact and255_rng _
theorem byt_w (a b c d e : Int) (k : Nat) : byt a b c d e k = btw (wrd a b c d e k) (k % 4) := by
  unfold byt btw
  rw [show (((k % 4 : Nat) : Int) % 4) = (k : Int) % 4 by omega]
theorem byt_add {a b c d e w : Int} {n k : Nat} (hn : n % 4 = 0) (hk : k < 4) (h : wrd a b c d e (n + k) = w) : byt a b c d e (n + k) = btw w k := by rw [byt_w, h, show (n + k) % 4 = k by omega]
theorem cntB_cut (f : Nat → Bool) (n : Nat) : ∀ k, cntB f (n + k) = cntB f n + cntB (fun i => f (n + i)) k
  | 0 => rfl
  | k + 1 => by rw [← Nat.add_assoc, cntB, cntB_cut f n k, cntB, Nat.add_assoc]
theorem cntB_cg {f g : Nat → Bool} : ∀ {n : Nat}, (∀ i, i < n → f i = g i) → cntB f n = cntB g n
  | 0, _ => rfl
  | n + 1, h => by rw [cntB, cntB, cntB_cg (fun i hi => h i (by omega)), h n (by omega)]
theorem tapF_cut (tp : Nat → Int) (sz : Nat) (f : Nat → Int) (n : Nat) : ∀ k, tapF tp sz f (n + k) = tapF (tapF tp sz f n) (sz + cntB (nzB f) n) (fun i => f (n + i)) k
  | 0 => rfl
  | k + 1 => by
    have h : cntB (nzB f) (n + k) = cntB (nzB f) n + cntB (nzB (fun i => f (n + i))) k := cntB_cut _ _ _
    rw [← Nat.add_assoc, tapF, tapF_cut tp sz f n k, h, tapF, Nat.add_assoc]
theorem tapF_cg {tp : Nat → Int} {sz : Nat} {f g : Nat → Int} : ∀ {n : Nat}, (∀ i, i < n → f i = g i) → tapF tp sz f n = tapF tp sz g n
  | 0, _ => rfl
  | n + 1, h => by
    have h1 : cntB (nzB f) n = cntB (nzB g) n := cntB_cg (fun i hi => by unfold nzB; rw [h i (by omega)])
    rw [tapF, tapF, tapF_cg (fun i hi => h i (by omega)), h n (by omega), h1]
theorem tapF_eq {a b : Nat → Int} {sz : Nat} {f : Nat → Int} (h : ∀ p, p < sz → a p = b p) : ∀ n p, p < sz + cntB (nzB f) n → tapF a sz f n p = tapF b sz f n p
  | 0, p, hp => h p hp
  | n + 1, p, hp => by
    have ih := tapF_eq (f := f) h n p
    rw [cntB] at hp
    rw [tapF, tapF]
    by_cases e : f n ≠ 0
    · rw [if_pos e, if_pos e]
      unfold fu
      split
      · rfl
      · next hq => exact ih (by split at hp <;> omega)
    · rw [if_neg e, if_neg e]
      refine ih ?_
      rw [if_neg (by unfold nzB; simp only [decide_eq_true_eq]; exact e)] at hp
      exact hp
theorem tapF_nz {a : Nat → Int} {sz : Nat} {f : Nat → Int} (h : ∀ p, p < sz → 1 ≤ a p ∧ a p ≤ 255) (hf : ∀ k, 0 ≤ f k ∧ f k ≤ 255) : ∀ n p, p < sz + cntB (nzB f) n → 1 ≤ tapF a sz f n p ∧ tapF a sz f n p ≤ 255
  | 0, p, hp => h p hp
  | n + 1, p, hp => by
    have ih := tapF_nz h hf n p
    have := hf n
    rw [cntB] at hp
    rw [tapF]
    by_cases e : f n ≠ 0
    · rw [if_pos e]
      unfold fu
      split
      · omega
      · next hq => exact ih (by split at hp <;> omega)
    · rw [if_neg e]
      refine ih ?_
      rw [if_neg (by unfold nzB; simp only [decide_eq_true_eq]; exact e)] at hp
      exact hp
def cW (w : Int) : Nat := cntB (nzB (btw w)) 4
def tW (tp : Nat → Int) (n : Nat) (w : Int) : Nat → Int := tapF tp n (btw w) 4
theorem byt_5 (a b c d e : Int) : cntB (nzB (byt a b c d e)) 20 = cW a + cW b + cW c + cW d + cW e ∧ ∀ (tp : Nat → Int) (n : Nat), tapF tp n (byt a b c d e) 20 = tW (tW (tW (tW (tW tp n a) (n + cW a) b) (n + cW a + cW b) c) (n + cW a + cW b + cW c) d) (n + cW a + cW b + cW c + cW d) e := by
  have w0 : ∀ i, i < 4 → byt a b c d e i = btw a i := fun i hi => by have := byt_add (a := a) (b := b) (c := c) (d := d) (e := e) (n := 0) (k := i) (w := a) rfl hi (by unfold wrd; rw [if_pos (by omega)]); rw [Nat.zero_add] at this; exact this
  have w1 : ∀ i, i < 4 → byt a b c d e (4 + i) = btw b i := fun i hi => byt_add rfl hi (by unfold wrd; rw [if_neg (by omega), if_pos (by omega)])
  have w2 : ∀ i, i < 4 → byt a b c d e (8 + i) = btw c i := fun i hi => byt_add rfl hi (by unfold wrd; rw [if_neg (by omega), if_neg (by omega), if_pos (by omega)])
  have w3 : ∀ i, i < 4 → byt a b c d e (12 + i) = btw d i := fun i hi => byt_add rfl hi (by unfold wrd; rw [if_neg (by omega), if_neg (by omega), if_neg (by omega), if_pos (by omega)])
  have w4 : ∀ i, i < 4 → byt a b c d e (16 + i) = btw e i := fun i hi => byt_add rfl hi (by unfold wrd; rw [if_neg (by omega), if_neg (by omega), if_neg (by omega), if_neg (by omega)])
  have z : ∀ {n : Nat} {w : Int}, (∀ i, i < 4 → byt a b c d e (n + i) = btw w i) → cntB (nzB (byt a b c d e)) (n + 4) = cntB (nzB (byt a b c d e)) n + cW w := fun {n w} h => by
    rw [cntB_cut]
    exact congrArg _ (cntB_cg (fun i hi => by unfold nzB; rw [h i hi]))
  have c4 : cntB (nzB (byt a b c d e)) 4 = cW a := cntB_cg (fun i hi => by unfold nzB; rw [w0 i hi])
  have c8 := z w1
  have c12 := z w2
  have c16 := z w3
  have c20 := z w4
  simp only [Nat.reduceAdd] at c8 c12 c16 c20
  refine ⟨by omega, fun tp n => ?_⟩
  have t : ∀ {k : Nat} {w : Int}, (∀ i, i < 4 → byt a b c d e (k + i) = btw w i) → tapF tp n (byt a b c d e) (k + 4) = tW (tapF tp n (byt a b c d e) k) (n + cntB (nzB (byt a b c d e)) k) w := fun {k w} h => by
    rw [tapF_cut]
    exact tapF_cg h
  have t4 : tapF tp n (byt a b c d e) 4 = tW tp n a := tapF_cg w0
  have t8 := t w1
  have t12 := t w2
  have t16 := t w3
  have t20 := t w4
  simp only [Nat.reduceAdd] at t8 t12 t16 t20
  rw [t20, t16, t12, t8, t4, c16, c12, c8, c4]
  simp only [Nat.add_assoc]
theorem dX8_bytesIn_0 : decode cX8_bytesIn 0 = .ok (.iconst 0, 1) := by decide +kernel
theorem dX8_bytesIn_1 : decode cX8_bytesIn 1 = .ok (.istore_n 1, 1) := by decide +kernel
theorem dX8_bytesIn_2 : decode cX8_bytesIn 2 = .ok (.bipush 24, 2) := by decide +kernel
theorem dX8_bytesIn_4 : decode cX8_bytesIn 4 = .ok (.istore_n 2, 1) := by decide +kernel
theorem dX8_bytesIn_5 : decode cX8_bytesIn 5 = .ok (.iload_n 2, 1) := by decide +kernel
theorem dX8_bytesIn_6 : decode cX8_bytesIn 6 = .ok (.ifCond .lt 22, 3) := by decide +kernel
theorem dX8_bytesIn_9 : decode cX8_bytesIn 9 = .ok (.iload_n 0, 1) := by decide +kernel
theorem dX8_bytesIn_10 : decode cX8_bytesIn 10 = .ok (.iload_n 2, 1) := by decide +kernel
theorem dX8_bytesIn_11 : decode cX8_bytesIn 11 = .ok (.iushr, 1) := by decide +kernel
theorem dX8_bytesIn_12 : decode cX8_bytesIn 12 = .ok (.sipush 255, 3) := by decide +kernel
theorem dX8_bytesIn_15 : decode cX8_bytesIn 15 = .ok (.iand, 1) := by decide +kernel
theorem dX8_bytesIn_16 : decode cX8_bytesIn 16 = .ok (.ifCond .eq 6, 3) := by decide +kernel
theorem dX8_bytesIn_19 : decode cX8_bytesIn 19 = .ok (.iinc 1 1, 3) := by decide +kernel
theorem dX8_bytesIn_22 : decode cX8_bytesIn 22 = .ok (.iinc 2 (-8), 3) := by decide +kernel
theorem dX8_bytesIn_25 : decode cX8_bytesIn 25 = .ok (.goto (-20), 3) := by decide +kernel
theorem dX8_bytesIn_28 : decode cX8_bytesIn 28 = .ok (.iload_n 1, 1) := by decide +kernel
theorem dX8_bytesIn_29 : decode cX8_bytesIn 29 = .ok (.ireturn, 1) := by decide +kernel
set_option maxHeartbeats 4000000 in
set_option maxRecDepth 100000 in
theorem cT_bytesIn (μ : Mm) {v : Int} : CtI PC 0 yX8_bytesIn cX8_bytesIn 3 (some .int) [vI v] μ ((cW v : Nat) : Int) := by
  refine ct_intro [some (vI v), none, none] RX8 (by decide) rfl XCo rfl (Nat.le_of_ble_eq_true rfl) (fun K hO => ?_)
  have lp : ∀ (c0 : Nat) (k : Nat), (k + c0 = 4) → AW K 5 [some (vI v), some (vI (((cntB (nzB (btw v)) k) : Nat) : Int)), some (vI (24 - 8 * ((k : Nat) : Int)))] [] μ := by
    intro c0
    induction c0 with
    | zero =>
      intro k hk
      refine aw_iload_n hO dX8_bytesIn_5 rfl rfl ?_
      refine aw_if_lt (tgt := 28) hO dX8_bytesIn_6 rfl rfl ⟨by omega, by omega⟩ (fun c6 => ?_) (fun c6 => ?_)
      · refine aw_iload_n hO dX8_bytesIn_28 rfl rfl ?_
        refine aw_iret hO dX8_bytesIn_29 ?_
        exact rI (by unfold cW; rw [show k = 4 by omega])
      · exact absurd c6 (by omega)
    | succ c0 ih =>
      intro k hk
      have e24 : 24 - 8 * ((k : Nat) : Int) + -8 = 24 - 8 * ((k + 1 : Nat) : Int) := by omega
      refine aw_iload_n hO dX8_bytesIn_5 rfl rfl ?_
      refine aw_if_lt (tgt := 28) hO dX8_bytesIn_6 rfl rfl ⟨by omega, by omega⟩ (fun c6 => ?_) (fun c6 => ?_)
      · exact absurd c6 (by omega)
      · refine aw_iload_n hO dX8_bytesIn_9 rfl rfl ?_
        refine aw_iload_n hO dX8_bytesIn_10 rfl rfl ?_
        refine aw_iushr hO dX8_bytesIn_11 rfl ?_
        refine aw_sipush hO dX8_bytesIn_12 rfl (by decide) (by decide) ?_
        refine aw_iand hO dX8_bytesIn_15 rfl ?_
        refine aw_cg (btw_us (w := v) (k := k) (by omega)) ?_
        refine aw_if_eq (tgt := 22) hO dX8_bytesIn_16 rfl rfl ⟨by have := btw_rng v k; omega, by have := btw_rng v k; omega⟩ (fun c16 => ?_) (fun c16 => ?_)
        · have hnz : nzB (btw v) k = false := by unfold nzB; simp only [c16, ne_eq, not_true_eq_false, decide_false]
          have hc1 : cntB (nzB (btw v)) (k + 1) = cntB (nzB (btw v)) k := by rw [cntB, hnz]; rfl
          refine aw_iinc (ls' := [some (vI v), some (vI (((cntB (nzB (btw v)) k) : Nat) : Int)), some (vI ((24 - 8 * ((k : Nat) : Int)) + (-8)))]) hO dX8_bytesIn_22 rfl rfl rfl rfl ?_
          refine aw_goto (tgt := 5) hO dX8_bytesIn_25 rfl ?_
          refine aw_lsq (ls' := [some (vI v), some (vI ((cntB (nzB (btw v)) (k + 1) : Nat) : Int)), some (vI (24 - 8 * ((k + 1 : Nat) : Int)))]) (by rw [hc1, ← e24]) ?_
          exact ih (k + 1) (by omega)
        · have hnz : nzB (btw v) k = true := by unfold nzB; simp only [ne_eq, c16, not_false_eq_true, decide_true]
          have hc1 : cntB (nzB (btw v)) (k + 1) = cntB (nzB (btw v)) k + 1 := by rw [cntB, hnz]; rfl
          refine aw_iinc (ls' := [some (vI v), some (vI ((((cntB (nzB (btw v)) k) : Nat) : Int) + 1)), some (vI (24 - 8 * ((k : Nat) : Int)))]) hO dX8_bytesIn_19 rfl rfl rfl rfl ?_
          refine aw_lsq (ls' := [some (vI v), some (vI ((((cntB (nzB (btw v)) k) + 1) : Nat) : Int)), some (vI (24 - 8 * ((k : Nat) : Int)))]) rfl ?_
          refine aw_iinc (ls' := [some (vI v), some (vI ((((cntB (nzB (btw v)) k) + 1) : Nat) : Int)), some (vI ((24 - 8 * ((k : Nat) : Int)) + (-8)))]) hO dX8_bytesIn_22 rfl rfl rfl rfl ?_
          refine aw_goto (tgt := 5) hO dX8_bytesIn_25 rfl ?_
          refine aw_lsq (ls' := [some (vI v), some (vI ((cntB (nzB (btw v)) (k + 1) : Nat) : Int)), some (vI (24 - 8 * ((k + 1 : Nat) : Int)))]) (by rw [hc1, ← e24]) ?_
          exact ih (k + 1) (by omega)
  refine aw_iconst hO dX8_bytesIn_0 rfl ?_
  refine aw_istore_n (ls' := [some (vI v), some (vI 0), none]) hO dX8_bytesIn_1 rfl (Nat.le_of_ble_eq_true rfl) rfl rfl ?_
  refine aw_bipush hO dX8_bytesIn_2 rfl (by decide) (by decide) ?_
  refine aw_istore_n (ls' := [some (vI v), some (vI 0), some (vI 24)]) hO dX8_bytesIn_4 rfl (Nat.le_of_ble_eq_true rfl) rfl rfl ?_
  exact lp 4 0 rfl
theorem dX8_add_0 : decode cX8_add 0 = .ok (.bipush 24, 2) := by decide +kernel
theorem dX8_add_2 : decode cX8_add 2 = .ok (.istore_n 2, 1) := by decide +kernel
theorem dX8_add_3 : decode cX8_add 3 = .ok (.iload_n 2, 1) := by decide +kernel
theorem dX8_add_4 : decode cX8_add 4 = .ok (.ifCond .lt 52, 3) := by decide +kernel
theorem dX8_add_7 : decode cX8_add 7 = .ok (.iload_n 1, 1) := by decide +kernel
theorem dX8_add_8 : decode cX8_add 8 = .ok (.iload_n 2, 1) := by decide +kernel
theorem dX8_add_9 : decode cX8_add 9 = .ok (.iushr, 1) := by decide +kernel
theorem dX8_add_10 : decode cX8_add 10 = .ok (.sipush 255, 3) := by decide +kernel
theorem dX8_add_13 : decode cX8_add 13 = .ok (.iand, 1) := by decide +kernel
theorem dX8_add_14 : decode cX8_add 14 = .ok (.istore_n 3, 1) := by decide +kernel
theorem dX8_add_15 : decode cX8_add 15 = .ok (.iload_n 3, 1) := by decide +kernel
theorem dX8_add_16 : decode cX8_add 16 = .ok (.ifCond .eq 34, 3) := by decide +kernel
theorem dX8_add_19 : decode cX8_add 19 = .ok (.aload_n 0, 1) := by decide +kernel
theorem dX8_add_20 : decode cX8_add 20 = .ok (.getfield 19, 3) := by decide +kernel
theorem dX8_add_23 : decode cX8_add 23 = .ok (.sipush 240, 3) := by decide +kernel
theorem dX8_add_26 : decode cX8_add 26 = .ok (.if_icmp .ge 24, 3) := by decide +kernel
theorem dX8_add_29 : decode cX8_add 29 = .ok (.aload_n 0, 1) := by decide +kernel
theorem dX8_add_30 : decode cX8_add 30 = .ok (.getfield 9, 3) := by decide +kernel
theorem dX8_add_33 : decode cX8_add 33 = .ok (.aload_n 0, 1) := by decide +kernel
theorem dX8_add_34 : decode cX8_add 34 = .ok (.getfield 19, 3) := by decide +kernel
theorem dX8_add_37 : decode cX8_add 37 = .ok (.iload_n 3, 1) := by decide +kernel
theorem dX8_add_38 : decode cX8_add 38 = .ok (.i2c, 1) := by decide +kernel
theorem dX8_add_39 : decode cX8_add 39 = .ok (.castore, 1) := by decide +kernel
theorem dX8_add_40 : decode cX8_add 40 = .ok (.aload_n 0, 1) := by decide +kernel
theorem dX8_add_41 : decode cX8_add 41 = .ok (.dup, 1) := by decide +kernel
theorem dX8_add_42 : decode cX8_add 42 = .ok (.getfield 19, 3) := by decide +kernel
theorem dX8_add_45 : decode cX8_add 45 = .ok (.iconst 1, 1) := by decide +kernel
theorem dX8_add_46 : decode cX8_add 46 = .ok (.iadd, 1) := by decide +kernel
theorem dX8_add_47 : decode cX8_add 47 = .ok (.putfield 19, 3) := by decide +kernel
theorem dX8_add_50 : decode cX8_add 50 = .ok (.iinc 2 (-8), 3) := by decide +kernel
theorem dX8_add_53 : decode cX8_add 53 = .ok (.goto (-50), 3) := by decide +kernel
theorem dX8_add_56 : decode cX8_add 56 = .ok (.return_, 1) := by decide +kernel
theorem tp_step {μ : Mm} {n k : Nat} {f : Nat → Int} {v a b : Int} (h : b = a + 1) : mst (mst (mst (mrow μ 2 f) 1 2 a) 2 k v) 1 2 (a + 1) = mst (mrow μ 2 (fu f k v)) 1 2 b := by
  rw [h]
  refine Prod.ext (funext fun k' => funext fun i' => ?_) rfl
  by_cases e1 : k' = 1
  · subst e1
    by_cases e2 : i' = 2
    · subst e2; rw [mst_eq, mst_eq]
    · rw [mst_ni e2, mst_nk (by decide), mst_ni e2, mst_ni e2, mrow_nk (by decide), mrow_nk (by decide)]
  · rw [mst_nk e1, mst_nk e1]
    by_cases e2 : k' = 2
    · subst e2
      rw [mrow_at]
      unfold fu
      by_cases e3 : i' = k
      · subst e3; rw [mst_eq, if_pos rfl]
      · rw [mst_ni e3, mst_nk (by decide), mrow_at, if_neg e3]
    · rw [mst_nk e2, mst_nk e1, mrow_nk e2, mrow_nk e2]
set_option maxRecDepth 100000 in
theorem pC_X8_19_1 {Q : Option AV → Mm → Prop} {K : KT} {cc : ByteArray} {nL d : Nat} {ret : Option FieldType} {pc n : Nat} {ls : List (Option AV)} {st : List AV} {μ : Mm} {a : Int} (hO : KOk PC Q K cc RX8 nL d ret) (hd : decode cc pc = .ok (.putfield 19, 3)) (hn : pc + 3 = n) (kk : AW K n ls st (mst μ 1 2 a)) : AW K pc ls (vI a :: vR 1 :: st) μ := aw_put (f := 2) hO hd hn okX8 tyX8_ok nmX8 (by decide) (lw_t1 43 rfl rfl) rfl rfl rfl (by decide) rfl rfl kk
set_option maxHeartbeats 4000000 in
set_option maxRecDepth 100000 in
theorem cT_tadd {μ : Mm} {v : Int} {n : Nat} (hn : μ.1 1 2 = (n : Int)) (hn2 : n + cW v ≤ 240) : CtV PC 0 yX8_add cX8_add 4 none [vR 1, vI v] μ (fun m => m = mst (mrow μ 2 (tW (μ.1 2) n v)) 1 2 ((n + cW v : Nat) : Int)) := by
  refine ct_intro [some (vR 1), some (vI v), none, none] RX8 (by decide) rfl XCo rfl (Nat.le_of_ble_eq_true rfl) (fun K hO => ?_)
  have hmo : ∀ k, k ≤ 4 → cntB (nzB (btw v)) k ≤ cW v := fun k hk => cntB_mono _ hk
  have lp : ∀ (c0 : Nat) (k : Nat) (x : Option AV) (m : Mm), (k + c0 = 4) → (m = mst (mrow μ 2 (tapF (μ.1 2) n (btw v) k)) 1 2 ((n + cntB (nzB (btw v)) k : Nat) : Int)) → AW K 3 [some (vR 1), some (vI v), some (vI (24 - 8 * ((k : Nat) : Int))), x] [] m := by
    intro c0
    induction c0 with
    | zero =>
      intro k x m hk hm
      have hsz : m.1 1 2 = ((n + cntB (nzB (btw v)) k : Nat) : Int) := by rw [hm, mst_eq]
      have hmk := hmo k (by omega)
      refine aw_iload_n hO dX8_add_3 rfl rfl ?_
      refine aw_if_lt (tgt := 56) hO dX8_add_4 rfl rfl ⟨by omega, by omega⟩ (fun c4 => ?_) (fun c4 => ?_)
      · refine aw_vret hO dX8_add_56 ?_
        exact ⟨rfl, by rw [hm, show k = 4 by omega]; rfl⟩
      · exact absurd c4 (by omega)
    | succ c0 ih =>
      intro k x m hk hm
      have hsz : m.1 1 2 = ((n + cntB (nzB (btw v)) k : Nat) : Int) := by rw [hm, mst_eq]
      have hmk := hmo k (by omega)
      have hbr := btw_rng v k
      have e24 : 24 - 8 * ((k : Nat) : Int) + -8 = 24 - 8 * ((k + 1 : Nat) : Int) := by omega
      refine aw_iload_n hO dX8_add_3 rfl rfl ?_
      refine aw_if_lt (tgt := 56) hO dX8_add_4 rfl rfl ⟨by omega, by omega⟩ (fun c4 => ?_) (fun c4 => ?_)
      · exact absurd c4 (by omega)
      · refine aw_iload_n hO dX8_add_7 rfl rfl ?_
        refine aw_iload_n hO dX8_add_8 rfl rfl ?_
        refine aw_iushr hO dX8_add_9 rfl ?_
        refine aw_sipush hO dX8_add_10 rfl (by decide) (by decide) ?_
        refine aw_iand hO dX8_add_13 rfl ?_
        refine aw_cg (btw_us (w := v) (k := k) (by omega)) ?_
        refine aw_istore_n (ls' := [some (vR 1), some (vI v), some (vI (24 - 8 * ((k : Nat) : Int))), some (vI (btw v k))]) hO dX8_add_14 rfl (Nat.le_of_ble_eq_true rfl) rfl rfl ?_
        refine aw_iload_n hO dX8_add_15 rfl rfl ?_
        refine aw_if_eq (tgt := 50) hO dX8_add_16 rfl rfl ⟨by omega, by omega⟩ (fun c16 => ?_) (fun c16 => ?_)
        · have hnz : nzB (btw v) k = false := by unfold nzB; simp only [c16, ne_eq, not_true_eq_false, decide_false]
          have hc1 : cntB (nzB (btw v)) (k + 1) = cntB (nzB (btw v)) k := by rw [cntB, hnz]; rfl
          refine aw_iinc (ls' := [some (vR 1), some (vI v), some (vI ((24 - 8 * ((k : Nat) : Int)) + (-8))), some (vI (btw v k))]) hO dX8_add_50 rfl rfl rfl rfl ?_
          refine aw_goto (tgt := 3) hO dX8_add_53 rfl ?_
          refine aw_lsq (ls' := [some (vR 1), some (vI v), some (vI (24 - 8 * ((k + 1 : Nat) : Int))), some (vI (btw v k))]) (by rw [← e24]) ?_
          exact ih (k + 1) _ m (by omega) (by rw [hm, hc1, tapF, if_neg (fun z => z c16)])
        · have hnz : nzB (btw v) k = true := by unfold nzB; simp only [ne_eq, c16, not_false_eq_true, decide_true]
          have hc1 : cntB (nzB (btw v)) (k + 1) = cntB (nzB (btw v)) k + 1 := by rw [cntB, hnz]; rfl
          have hmk1 := hmo (k + 1) (by omega)
          refine aw_aload_n hO dX8_add_19 rfl rfl ?_
          refine gC_X8_19_1 hO dX8_add_20 rfl ?_
          refine aw_cg hsz ?_
          refine aw_sipush hO dX8_add_23 rfl (by decide) (by decide) ?_
          refine aw_icmp_ge (tgt := 50) hO dX8_add_26 rfl rfl ⟨by omega, by omega⟩ (inRlit _) (fun c26 => ?_) (fun c26 => ?_)
          · exact absurd c26 (by omega)
          · refine aw_aload_n hO dX8_add_29 rfl rfl ?_
            refine gC_X8_9_1 hO dX8_add_30 rfl ?_
            refine aw_aload_n hO dX8_add_33 rfl rfl ?_
            refine gC_X8_19_1 hO dX8_add_34 rfl ?_
            refine aw_cg hsz ?_
            refine aw_iload_n hO dX8_add_37 rfl rfl ?_
            refine aw_i2c hO dX8_add_38 rfl (by omega) (by omega) ?_
            refine aw_cast (N := 240) (i := (n + cntB (nzB (btw v)) k)) hO dX8_add_39 rfl (by decide) rfl (by decide) rfl (by omega) (by omega) (by omega) ?_
            refine aw_mm (fun μ1 e_μ1 => ?_)
            refine aw_aload_n hO dX8_add_40 rfl rfl ?_
            refine aw_dup hO dX8_add_41 rfl rfl ?_
            refine gC_X8_19_1 hO dX8_add_42 rfl ?_
            refine aw_cg (show μ1.1 1 2 = ((n + cntB (nzB (btw v)) k : Nat) : Int) by rw [e_μ1, mst_nk (by decide)]; exact hsz) ?_
            refine aw_iconst hO dX8_add_45 rfl ?_
            refine aw_iadd hO dX8_add_46 rfl ?_
            refine pC_X8_19_1 hO dX8_add_47 rfl ?_
            refine aw_mm (fun μ2 e_μ2 => ?_)
            refine aw_iinc (ls' := [some (vR 1), some (vI v), some (vI ((24 - 8 * ((k : Nat) : Int)) + (-8))), some (vI (btw v k))]) hO dX8_add_50 rfl rfl rfl rfl ?_
            refine aw_goto (tgt := 3) hO dX8_add_53 rfl ?_
            refine aw_lsq (ls' := [some (vR 1), some (vI v), some (vI (24 - 8 * ((k + 1 : Nat) : Int))), some (vI (btw v k))]) (by rw [← e24]) ?_
            exact ih (k + 1) _ μ2 (by omega) (by rw [e_μ2, e_μ1, hm, hc1, tapF, if_pos c16]; exact tp_step (n := n) (by omega))
  refine aw_bipush hO dX8_add_0 rfl (by decide) (by decide) ?_
  refine aw_istore_n (ls' := [some (vR 1), some (vI v), some (vI 24), none]) hO dX8_add_2 rfl (Nat.le_of_ble_eq_true rfl) rfl rfl ?_
  exact lp 4 0 none μ rfl (by rw [tapF, cntB, mrow_self, Nat.add_zero, mst_self hn])
