/-! ## guesses -/
/-- the likings for which P holds lie in the row, rising -/
def FT (P : Nat → Bool) (μ : Mm) : Prop := μ.1 81 4 = ((cntB P 1000 : Nat) : Int) ∧ ∀ L, L < 1000 → P L = true → μ.1 82 (cntB P L) = (L : Int)
theorem cnt_find {P : Nat → Bool} : ∀ (n i : Nat), i < cntB P n → ∃ L, L < n ∧ P L = true ∧ cntB P L = i
  | 0, i, h => by simp [cntB] at h
  | n + 1, i, h => by
    by_cases hp : P n = true
    · rw [cntB_t hp] at h
      by_cases e : i = cntB P n
      · exact ⟨n, by omega, hp, e.symm⟩
      · obtain ⟨L, h1, h2, h3⟩ := cnt_find (P := P) n i (by omega)
        exact ⟨L, by omega, h2, h3⟩
    · rw [cntB_f hp] at h
      obtain ⟨L, h1, h2, h3⟩ := cnt_find (P := P) n i h
      exact ⟨L, by omega, h2, h3⟩
theorem FT.at {P : Nat → Bool} {μ : Mm} (h : FT P μ) {i : Nat} (hi : i < cntB P 1000) : ∃ L, L < 1000 ∧ P L = true ∧ cntB P L = i ∧ μ.1 82 i = (L : Int) := by
  obtain ⟨L, h1, h2, h3⟩ := cnt_find 1000 i hi
  exact ⟨L, h1, h2, h3, by rw [← h3]; exact h.2 L h1 h2⟩
/-- counting among those found -/
theorem cnt_sub {P Q : Nat → Bool} {μ : Mm} (h : FT P μ) : ∀ L, L ≤ 1000 → cntB (fun l => P l && Q l) L = cntB (fun j => Q (μ.1 82 j).toNat) (cntB P L)
  | 0, _ => rfl
  | L + 1, hL => by
    have ih := cnt_sub (Q := Q) h L (by omega)
    by_cases hp : P L = true
    · rw [cntB_t hp, cntB, cntB, ih, h.2 L (by omega) hp, Int.toNat_natCast, hp, Bool.true_and]
    · rw [cntB_f hp, cntB, ih, if_neg (by simp [hp])]; rfl
theorem sum_sub {P : Nat → Bool} {μ : Mm} {g : Nat → Int} (h : FT P μ) : ∀ L, L ≤ 1000 → sumF (fun j => g (μ.1 82 j).toNat) (cntB P L) = sumF (fun l => if P l = true then g l else 0) L
  | 0, _ => rfl
  | L + 1, hL => by
    have ih := sum_sub (g := g) h L (by omega)
    by_cases hp : P L = true
    · rw [cntB_t hp, sumF, sumF, ih, h.2 L (by omega) hp, Int.toNat_natCast, if_pos hp]
    · rw [cntB_f hp, sumF, ih, if_neg hp, Int.add_zero]
theorem sumF_abs {f : Nat → Int} (h : ∀ k, -1 ≤ f k ∧ f k ≤ 1) : ∀ n : Nat, -(n : Int) ≤ sumF f n ∧ sumF f n ≤ (n : Int)
  | 0 => by simp [sumF]
  | n + 1 => by
    have h1 := sumF_abs h n
    have h2 := h n
    rw [sumF]
    omega
def gS (k i : Nat) : Prop := k = 82 ∨ k = 83 ∨ k = 84 ∨ (k = 81 ∧ (i = 4 ∨ i = 5))
theorem JR0.fg {μ m ν : Mm} (h : JR0 μ ν) (hF : Fr gS μ m) : JR0 m ν := ⟨h.1, h.2.fr (hF.fn (fun i => by unfold gS; omega)) (hF.fn (fun i => by unfold gS; omega))⟩
def qG (ν : Mm) (s : Int) (one : Nat) (z : Int) (L : Nat) : Bool := decide ((if tpkM ν s L = (one : Int) then (1 : Int) else 0) = z)
def ceG (ν μ : Mm) (s : Int) (one : Nat) (z : Int) (j : Nat) : Bool := qG ν s one z (μ.1 82 j).toNat
theorem tapM_R (ν : Mm) (L p : Nat) : -99 ≤ tapM ν L p ∧ tapM ν L p ≤ 99 := clamp_R
theorem dX2_forget_0 : decode cX2_forget 0 = .ok (.iconst 0, 1) := by decide +kernel
theorem dX2_forget_1 : decode cX2_forget 1 = .ok (.istore_n 1, 1) := by decide +kernel
theorem dX2_forget_2 : decode cX2_forget 2 = .ok (.iload_n 1, 1) := by decide +kernel
theorem dX2_forget_3 : decode cX2_forget 3 = .ok (.sipush 1000, 3) := by decide +kernel
theorem dX2_forget_6 : decode cX2_forget 6 = .ok (.if_icmp .ge 16, 3) := by decide +kernel
theorem dX2_forget_9 : decode cX2_forget 9 = .ok (.aload_n 0, 1) := by decide +kernel
theorem dX2_forget_10 : decode cX2_forget 10 = .ok (.getfield 11, 3) := by decide +kernel
theorem dX2_forget_13 : decode cX2_forget 13 = .ok (.iload_n 1, 1) := by decide +kernel
theorem dX2_forget_14 : decode cX2_forget 14 = .ok (.iload_n 1, 1) := by decide +kernel
theorem dX2_forget_15 : decode cX2_forget 15 = .ok (.iastore, 1) := by decide +kernel
theorem dX2_forget_16 : decode cX2_forget 16 = .ok (.iinc 1 1, 3) := by decide +kernel
theorem dX2_forget_19 : decode cX2_forget 19 = .ok (.goto (-17), 3) := by decide +kernel
theorem dX2_forget_22 : decode cX2_forget 22 = .ok (.aload_n 0, 1) := by decide +kernel
theorem dX2_forget_23 : decode cX2_forget 23 = .ok (.sipush 1000, 3) := by decide +kernel
theorem dX2_forget_26 : decode cX2_forget 26 = .ok (.putfield 21, 3) := by decide +kernel
theorem dX2_forget_29 : decode cX2_forget 29 = .ok (.aload_n 0, 1) := by decide +kernel
theorem dX2_forget_30 : decode cX2_forget 30 = .ok (.iconst 0, 1) := by decide +kernel
theorem dX2_forget_31 : decode cX2_forget 31 = .ok (.putfield 25, 3) := by decide +kernel
theorem dX2_forget_34 : decode cX2_forget 34 = .ok (.return_, 1) := by decide +kernel
set_option maxRecDepth 100000 in
theorem pC_X2_21_81 {Q : Option AV → Mm → Prop} {K : KT} {cc : ByteArray} {nL d : Nat} {ret : Option FieldType} {pc n : Nat} {ls : List (Option AV)} {st : List AV} {μ : Mm} {a : Int} (hO : KOk PC Q K cc RX2 nL d ret) (hd : decode cc pc = .ok (.putfield 21, 3)) (hn : pc + 3 = n) (kk : AW K n ls st (mst μ 81 4 a)) : AW K pc ls (vI a :: vR 81 :: st) μ := aw_put (f := 4) hO hd hn okX2 tyX2_ok nmX2 (by decide) (lw_t2 27 rfl rfl) rfl rfl rfl (by decide) rfl rfl kk
set_option maxRecDepth 100000 in
theorem pC_X2_25_81 {Q : Option AV → Mm → Prop} {K : KT} {cc : ByteArray} {nL d : Nat} {ret : Option FieldType} {pc n : Nat} {ls : List (Option AV)} {st : List AV} {μ : Mm} {a : Int} (hO : KOk PC Q K cc RX2 nL d ret) (hd : decode cc pc = .ok (.putfield 25, 3)) (hn : pc + 3 = n) (kk : AW K n ls st (mst μ 81 5 a)) : AW K pc ls (vI a :: vR 81 :: st) μ := aw_put (f := 5) hO hd hn okX2 tyX2_ok nmX2 (by decide) (lw_t2 29 rfl rfl) rfl rfl rfl (by decide) rfl rfl kk
set_option maxRecDepth 100000 in
theorem gC_X2_11_81 {Q : Option AV → Mm → Prop} {K : KT} {cc : ByteArray} {nL d : Nat} {ret : Option FieldType} {pc n : Nat} {ls : List (Option AV)} {st : List AV} {μ : Mm} (hO : KOk PC Q K cc RX2 nL d ret) (hd : decode cc pc = .ok (.getfield 11, 3)) (hn : pc + 3 = n) (kk : AW K n ls (vR 82 :: st) μ) : AW K pc ls (vR 81 :: st) μ := aw_get (f := 1) hO hd hn okX2 (by decide) (lw_t2 23 rfl rfl) (by decide) rfl rfl rfl kk
set_option maxHeartbeats 4000000 in
set_option maxRecDepth 100000 in
theorem cJ_forgetG (μ : Mm) : CtV PC 0 yX2_forget cX2_forget 2 none [vR 81] μ (fun m => Fr gS μ m ∧ m.1 81 4 = 1000 ∧ m.1 81 5 = 0 ∧ ∀ L, L < 1000 → m.1 82 L = (L : Int)) := by
  refine ct_intro [some (vR 81), none] RX2 (by decide) rfl XCo rfl (Nat.le_of_ble_eq_true rfl) (fun K hO => ?_)
  have lp : ∀ (c : Nat) (i : Nat) (m : Mm), (i + c = 1000) → (Fr gS μ m ∧ ∀ L, L < i → m.1 82 L = (L : Int)) → AW K 2 [some (vR 81), some (vI ((i : Nat) : Int))] [] m := by
    intro c
    induction c with
    | zero =>
      intro i m hi hm
      refine aw_iload_n hO dX2_forget_2 rfl rfl ?_
      refine aw_sipush hO dX2_forget_3 rfl (by decide) (by decide) ?_
      refine aw_icmp_ge (tgt := 22) hO dX2_forget_6 rfl rfl (inRn (by omega)) (inRlit _) (fun c6 => ?_) (fun c6 => ?_)
      · refine aw_aload_n hO dX2_forget_22 rfl rfl ?_
        refine aw_sipush hO dX2_forget_23 rfl (by decide) (by decide) ?_
        refine pC_X2_21_81 hO dX2_forget_26 rfl ?_
        refine aw_mm (fun μ1 e_μ1 => ?_)
        refine aw_aload_n hO dX2_forget_29 rfl rfl ?_
        refine aw_iconst hO dX2_forget_30 rfl ?_
        refine pC_X2_25_81 hO dX2_forget_31 rfl ?_
        refine aw_mm (fun μ2 e_μ2 => ?_)
        refine aw_vret hO dX2_forget_34 ?_
        exact ⟨rfl, by rw [e_μ2, e_μ1]; exact (hm.1.st (Or.inr (Or.inr (Or.inr ⟨rfl, Or.inl rfl⟩))) _).st (Or.inr (Or.inr (Or.inr ⟨rfl, Or.inr rfl⟩))) _, by rw [e_μ2, mst_ni (by decide), e_μ1, mst_eq], by rw [e_μ2, mst_eq], fun L hL => by rw [e_μ2, mst_nk (by decide), e_μ1, mst_nk (by decide)]; exact hm.2 L (by omega)⟩
      · exact absurd c6 (by omega)
    | succ c ih =>
      intro i m hi hm
      refine aw_iload_n hO dX2_forget_2 rfl rfl ?_
      refine aw_sipush hO dX2_forget_3 rfl (by decide) (by decide) ?_
      refine aw_icmp_ge (tgt := 22) hO dX2_forget_6 rfl rfl (inRn (by omega)) (inRlit _) (fun c6 => ?_) (fun c6 => ?_)
      · exact absurd c6 (by omega)
      · refine aw_aload_n hO dX2_forget_9 rfl rfl ?_
        refine gC_X2_11_81 hO dX2_forget_10 rfl ?_
        refine aw_iload_n hO dX2_forget_13 rfl rfl ?_
        refine aw_iload_n hO dX2_forget_14 rfl rfl ?_
        refine aw_iastn (N := 1000) (i := i) hO dX2_forget_15 rfl (by decide) rfl (by decide) rfl (by omega) ?_
        refine aw_mm (fun μ3 e_μ3 => ?_)
        refine aw_iinc (ls' := [some (vR 81), some (vI (((i : Nat) : Int) + 1))]) hO dX2_forget_16 rfl rfl rfl rfl ?_
        refine aw_lsq (ls' := [some (vR 81), some (vI (((i + 1) : Nat) : Int))]) rfl ?_
        refine aw_goto (tgt := 2) hO dX2_forget_19 rfl ?_
        refine aw_lsq (ls' := [some (vR 81), some (vI (((i + 1) : Nat) : Int))]) rfl ?_
        refine ih (i + 1) μ3 (by omega) ⟨by rw [e_μ3]; exact hm.1.st (Or.inl rfl) _, fun L hL => ?_⟩
        rw [e_μ3]
        by_cases e : L = i
        · rw [e, mst_eq]
        · rw [mst_ni e]; exact hm.2 L (by omega)
  refine aw_iconst hO dX2_forget_0 rfl ?_
  refine aw_istore_n (ls' := [some (vR 81), some (vI 0)]) hO dX2_forget_1 rfl (Nat.le_of_ble_eq_true rfl) rfl rfl ?_
  refine aw_lsq (ls' := [some (vR 81), some (vI ((0 : Nat) : Int))]) rfl ?_
  exact lp 1000 0 μ rfl ⟨Fr.rf, fun L hL => absurd hL (Nat.not_lt_zero _)⟩
theorem dX2_weigh_0 : decode cX2_weigh 0 = .ok (.iload_n 1, 1) := by decide +kernel
theorem dX2_weigh_1 : decode cX2_weigh 1 = .ok (.bipush 100, 2) := by decide +kernel
theorem dX2_weigh_3 : decode cX2_weigh 3 = .ok (.idiv, 1) := by decide +kernel
theorem dX2_weigh_4 : decode cX2_weigh 4 = .ok (.istore_n 2, 1) := by decide +kernel
theorem dX2_weigh_5 : decode cX2_weigh 5 = .ok (.iload_n 1, 1) := by decide +kernel
theorem dX2_weigh_6 : decode cX2_weigh 6 = .ok (.bipush 10, 2) := by decide +kernel
theorem dX2_weigh_8 : decode cX2_weigh 8 = .ok (.idiv, 1) := by decide +kernel
theorem dX2_weigh_9 : decode cX2_weigh 9 = .ok (.bipush 10, 2) := by decide +kernel
theorem dX2_weigh_11 : decode cX2_weigh 11 = .ok (.irem, 1) := by decide +kernel
theorem dX2_weigh_12 : decode cX2_weigh 12 = .ok (.istore_n 3, 1) := by decide +kernel
theorem dX2_weigh_13 : decode cX2_weigh 13 = .ok (.iload_n 1, 1) := by decide +kernel
theorem dX2_weigh_14 : decode cX2_weigh 14 = .ok (.bipush 10, 2) := by decide +kernel
theorem dX2_weigh_16 : decode cX2_weigh 16 = .ok (.irem, 1) := by decide +kernel
theorem dX2_weigh_17 : decode cX2_weigh 17 = .ok (.istore 4, 2) := by decide +kernel
theorem dX2_weigh_19 : decode cX2_weigh 19 = .ok (.iconst 0, 1) := by decide +kernel
theorem dX2_weigh_20 : decode cX2_weigh 20 = .ok (.istore 5, 2) := by decide +kernel
theorem dX2_weigh_22 : decode cX2_weigh 22 = .ok (.iload 5, 2) := by decide +kernel
theorem dX2_weigh_24 : decode cX2_weigh 24 = .ok (.aload_n 0, 1) := by decide +kernel
theorem dX2_weigh_25 : decode cX2_weigh 25 = .ok (.getfield 28, 3) := by decide +kernel
theorem dX2_weigh_28 : decode cX2_weigh 28 = .ok (.getfield 40, 3) := by decide +kernel
theorem dX2_weigh_31 : decode cX2_weigh 31 = .ok (.if_icmp .ge 65, 3) := by decide +kernel
theorem dX2_weigh_34 : decode cX2_weigh 34 = .ok (.iload_n 2, 1) := by decide +kernel
theorem dX2_weigh_35 : decode cX2_weigh 35 = .ok (.aload_n 0, 1) := by decide +kernel
theorem dX2_weigh_36 : decode cX2_weigh 36 = .ok (.getfield 28, 3) := by decide +kernel
theorem dX2_weigh_39 : decode cX2_weigh 39 = .ok (.iload 5, 2) := by decide +kernel
theorem dX2_weigh_41 : decode cX2_weigh 41 = .ok (.iconst 0, 1) := by decide +kernel
theorem dX2_weigh_42 : decode cX2_weigh 42 = .ok (.invokevirtual 45, 3) := by decide +kernel
theorem dX2_weigh_45 : decode cX2_weigh 45 = .ok (.imul, 1) := by decide +kernel
theorem dX2_weigh_46 : decode cX2_weigh 46 = .ok (.iload_n 3, 1) := by decide +kernel
theorem dX2_weigh_47 : decode cX2_weigh 47 = .ok (.aload_n 0, 1) := by decide +kernel
theorem dX2_weigh_48 : decode cX2_weigh 48 = .ok (.getfield 28, 3) := by decide +kernel
theorem dX2_weigh_51 : decode cX2_weigh 51 = .ok (.iload 5, 2) := by decide +kernel
theorem dX2_weigh_53 : decode cX2_weigh 53 = .ok (.iconst 1, 1) := by decide +kernel
theorem dX2_weigh_54 : decode cX2_weigh 54 = .ok (.invokevirtual 45, 3) := by decide +kernel
theorem dX2_weigh_57 : decode cX2_weigh 57 = .ok (.imul, 1) := by decide +kernel
theorem dX2_weigh_58 : decode cX2_weigh 58 = .ok (.iadd, 1) := by decide +kernel
theorem dX2_weigh_59 : decode cX2_weigh 59 = .ok (.istore 6, 2) := by decide +kernel
theorem dX2_weigh_61 : decode cX2_weigh 61 = .ok (.aload_n 0, 1) := by decide +kernel
theorem dX2_weigh_62 : decode cX2_weigh 62 = .ok (.getfield 15, 3) := by decide +kernel
theorem dX2_weigh_65 : decode cX2_weigh 65 = .ok (.iload 5, 2) := by decide +kernel
theorem dX2_weigh_67 : decode cX2_weigh 67 = .ok (.iload 6, 2) := by decide +kernel
theorem dX2_weigh_69 : decode cX2_weigh 69 = .ok (.iload 4, 2) := by decide +kernel
theorem dX2_weigh_71 : decode cX2_weigh 71 = .ok (.aload_n 0, 1) := by decide +kernel
theorem dX2_weigh_72 : decode cX2_weigh 72 = .ok (.getfield 28, 3) := by decide +kernel
theorem dX2_weigh_75 : decode cX2_weigh 75 = .ok (.iload 5, 2) := by decide +kernel
theorem dX2_weigh_77 : decode cX2_weigh 77 = .ok (.iconst 2, 1) := by decide +kernel
theorem dX2_weigh_78 : decode cX2_weigh 78 = .ok (.invokevirtual 45, 3) := by decide +kernel
theorem dX2_weigh_81 : decode cX2_weigh 81 = .ok (.imul, 1) := by decide +kernel
theorem dX2_weigh_82 : decode cX2_weigh 82 = .ok (.isub, 1) := by decide +kernel
theorem dX2_weigh_83 : decode cX2_weigh 83 = .ok (.i2l, 1) := by decide +kernel
theorem dX2_weigh_84 : decode cX2_weigh 84 = .ok (.bipush 99, 2) := by decide +kernel
theorem dX2_weigh_86 : decode cX2_weigh 86 = .ok (.invokestatic 49, 3) := by decide +kernel
theorem dX2_weigh_89 : decode cX2_weigh 89 = .ok (.iastore, 1) := by decide +kernel
theorem dX2_weigh_90 : decode cX2_weigh 90 = .ok (.iinc 5 1, 3) := by decide +kernel
theorem dX2_weigh_93 : decode cX2_weigh 93 = .ok (.goto (-71), 3) := by decide +kernel
theorem dX2_weigh_96 : decode cX2_weigh 96 = .ok (.return_, 1) := by decide +kernel
set_option maxRecDepth 100000 in
theorem gC_X2_28_81 {Q : Option AV → Mm → Prop} {K : KT} {cc : ByteArray} {nL d : Nat} {ret : Option FieldType} {pc n : Nat} {ls : List (Option AV)} {st : List AV} {μ : Mm} (hO : KOk PC Q K cc RX2 nL d ret) (hd : decode cc pc = .ok (.getfield 28, 3)) (hn : pc + 3 = n) (kk : AW K n ls (vR 25 :: st) μ) : AW K pc ls (vR 81 :: st) μ := aw_get (f := 0) hO hd hn okX2 (by decide) (lw_t2 22 rfl rfl) (by decide) rfl rfl rfl kk
set_option maxRecDepth 100000 in
theorem gC_X2_40_25 {Q : Option AV → Mm → Prop} {K : KT} {cc : ByteArray} {nL d : Nat} {ret : Option FieldType} {pc n : Nat} {ls : List (Option AV)} {st : List AV} {μ : Mm} (hO : KOk PC Q K cc RX2 nL d ret) (hd : decode cc pc = .ok (.getfield 40, 3)) (hn : pc + 3 = n) (kk : AW K n ls (vI (μ.1 25 1) :: st) μ) : AW K pc ls (vR 25 :: st) μ := aw_getN (f := 1) hO hd hn okX9 (by decide) (lw_t1n 80 rfl rfl) (by decide) rfl rfl rfl kk
set_option maxRecDepth 100000 in
theorem gC_X2_15_81 {Q : Option AV → Mm → Prop} {K : KT} {cc : ByteArray} {nL d : Nat} {ret : Option FieldType} {pc n : Nat} {ls : List (Option AV)} {st : List AV} {μ : Mm} (hO : KOk PC Q K cc RX2 nL d ret) (hd : decode cc pc = .ok (.getfield 15, 3)) (hn : pc + 3 = n) (kk : AW K n ls (vR 83 :: st) μ) : AW K pc ls (vR 81 :: st) μ := aw_get (f := 2) hO hd hn okX2 (by decide) (lw_t2 25 rfl rfl) (by decide) rfl rfl rfl kk
set_option maxHeartbeats 4000000 in
set_option maxRecDepth 100000 in
theorem cJ_weighG {μ ν : Mm} (h : JR0 μ ν) {L : Nat} (hL : L < 1000) : CtV PC 1 yX2_weigh cX2_weigh 7 none [vR 81, vI ((L : Nat) : Int)] μ (fun m => Fr (fun k _ => k = 83) μ m ∧ ∀ p, p < (ν.1 0 25).toNat → m.1 83 p = tapM ν L p) := by
  refine ct_intro [some (vR 81), some (vI ((L : Nat) : Int)), none, none, none, none, none] RX2 (by decide) rfl XCo rfl (Nat.le_of_ble_eq_true rfl) (fun K hO => ?_)
  have hnp := h.B.np
  have hnt := h.B.nt
  refine aw_iload_n hO dX2_weigh_0 rfl rfl ?_
  refine aw_bipush hO dX2_weigh_1 rfl (by decide) (by decide) ?_
  refine aw_idiv hO dX2_weigh_3 rfl (by omega) (by omega) (by omega) (by omega) ?_
  refine aw_istore_n (ls' := [some (vR 81), some (vI ((L : Nat) : Int)), some (vI (((L : Nat) : Int) / 100)), none, none, none, none]) hO dX2_weigh_4 rfl (Nat.le_of_ble_eq_true rfl) rfl rfl ?_
  refine aw_iload_n hO dX2_weigh_5 rfl rfl ?_
  refine aw_bipush hO dX2_weigh_6 rfl (by decide) (by decide) ?_
  refine aw_idiv hO dX2_weigh_8 rfl (by omega) (by omega) (by omega) (by omega) ?_
  refine aw_bipush hO dX2_weigh_9 rfl (by decide) (by decide) ?_
  refine aw_irem hO dX2_weigh_11 rfl (by omega) (by omega) (by omega) (by omega) ?_
  refine aw_istore_n (ls' := [some (vR 81), some (vI ((L : Nat) : Int)), some (vI (((L : Nat) : Int) / 100)), some (vI ((((L : Nat) : Int) / 10) % 10)), none, none, none]) hO dX2_weigh_12 rfl (Nat.le_of_ble_eq_true rfl) rfl rfl ?_
  refine aw_iload_n hO dX2_weigh_13 rfl rfl ?_
  refine aw_bipush hO dX2_weigh_14 rfl (by decide) (by decide) ?_
  refine aw_irem hO dX2_weigh_16 rfl (by omega) (by omega) (by omega) (by omega) ?_
  refine aw_istore (ls' := [some (vR 81), some (vI ((L : Nat) : Int)), some (vI (((L : Nat) : Int) / 100)), some (vI ((((L : Nat) : Int) / 10) % 10)), some (vI (((L : Nat) : Int) % 10)), none, none]) hO dX2_weigh_17 rfl (Nat.le_of_ble_eq_true rfl) rfl rfl ?_
  refine aw_iconst hO dX2_weigh_19 rfl ?_
  refine aw_istore (ls' := [some (vR 81), some (vI ((L : Nat) : Int)), some (vI (((L : Nat) : Int) / 100)), some (vI ((((L : Nat) : Int) / 10) % 10)), some (vI (((L : Nat) : Int) % 10)), some (vI 0), none]) hO dX2_weigh_20 rfl (Nat.le_of_ble_eq_true rfl) rfl rfl ?_
  have lp : ∀ (c : Nat) (i : Nat) (m : Mm), ((i : Int) + c = ν.1 0 25) → (Fr (fun k _ => k = 83) μ m ∧ ∀ p, p < i → m.1 83 p = tapM ν L p) → AW K 22 [some (vR 81), some (vI ((L : Nat) : Int)), some (vI (((L : Nat) : Int) / 100)), some (vI ((((L : Nat) : Int) / 10) % 10)), some (vI (((L : Nat) : Int) % 10)), some (vI ((i : Nat) : Int)), none] [] m := by
    intro c
    induction c with
    | zero =>
      intro i m hi hm
      have hJm : JR0 m ν := ⟨h.1, h.2.fr (hm.1.fn (fun i => by omega)) (hm.1.fn (fun i => by omega))⟩
      refine aw_iload hO dX2_weigh_22 rfl rfl ?_
      refine aw_aload_n hO dX2_weigh_24 rfl rfl ?_
      refine gC_X2_28_81 hO dX2_weigh_25 rfl ?_
      refine gC_X2_40_25 hO dX2_weigh_28 rfl ?_
      refine aw_cg hJm.T.n ?_
      refine aw_icmp_ge (tgt := 96) hO dX2_weigh_31 rfl rfl (inRn (by omega)) ⟨by omega, by omega⟩ (fun c31 => ?_) (fun c31 => ?_)
      · refine aw_vret hO dX2_weigh_96 ?_
        exact ⟨rfl, hm.1, fun p hp => hm.2 p (by omega)⟩
      · exact absurd c31 (by omega)
    | succ c ih =>
      intro i m hi hm
      have hJm : JR0 m ν := ⟨h.1, h.2.fr (hm.1.fn (fun i => by omega)) (hm.1.fn (fun i => by omega))⟩
      have t0 := h.B.per (p := i) (k := 0) (by omega) (by decide)
      have t1 := h.B.per (p := i) (k := 1) (by omega) (by decide)
      have t2 := h.B.per (p := i) (k := 2) (by omega) (by decide)
      have m0 := mulB (a := (L : Int) / 100) (A := 9) (by omega) (by omega) t0.1 t0.2
      have m1 := mulB (a := (L : Int) / 10 % 10) (A := 9) (by omega) (by omega) t1.1 t1.2
      have m2 := mulB (a := (L : Int) % 10) (A := 9) (by omega) (by omega) t2.1 t2.2
      refine aw_iload hO dX2_weigh_22 rfl rfl ?_
      refine aw_aload_n hO dX2_weigh_24 rfl rfl ?_
      refine gC_X2_28_81 hO dX2_weigh_25 rfl ?_
      refine gC_X2_40_25 hO dX2_weigh_28 rfl ?_
      refine aw_cg hJm.T.n ?_
      refine aw_icmp_ge (tgt := 96) hO dX2_weigh_31 rfl rfl (inRn (by omega)) ⟨by omega, by omega⟩ (fun c31 => ?_) (fun c31 => ?_)
      · exact absurd c31 (by omega)
      · refine aw_iload_n hO dX2_weigh_34 rfl rfl ?_
        refine aw_aload_n hO dX2_weigh_35 rfl rfl ?_
        refine gC_X2_28_81 hO dX2_weigh_36 rfl ?_
        refine aw_iload hO dX2_weigh_39 rfl rfl ?_
        refine aw_iconst hO dX2_weigh_41 rfl ?_
        refine aw_callVI (as := [vI ((i : Nat) : Int), vI 0]) (st := [vI (((L : Nat) : Int) / 100)]) hO dX2_weigh_42 rfl (lw_t4 231 rfl rfl) kX9_trait (T := TX9) rfl (by decide) rfl (cJ_trait hJm (p := i) (k := 0) (by omega) (by omega)) (by decide) rfl rfl rfl (Nat.le_of_ble_eq_true rfl) ?_
        refine aw_imul hO dX2_weigh_45 rfl ?_
        refine aw_iload_n hO dX2_weigh_46 rfl rfl ?_
        refine aw_aload_n hO dX2_weigh_47 rfl rfl ?_
        refine gC_X2_28_81 hO dX2_weigh_48 rfl ?_
        refine aw_iload hO dX2_weigh_51 rfl rfl ?_
        refine aw_iconst hO dX2_weigh_53 rfl ?_
        refine aw_callVI (as := [vI ((i : Nat) : Int), vI 1]) (st := [vI ((((L : Nat) : Int) / 10) % 10), vI ((((L : Nat) : Int) / 100) * (ν.1 15 (4 * i + 0)))]) hO dX2_weigh_54 rfl (lw_t4 231 rfl rfl) kX9_trait (T := TX9) rfl (by decide) rfl (cJ_trait hJm (p := i) (k := 1) (by omega) (by omega)) (by decide) rfl rfl rfl (Nat.le_of_ble_eq_true rfl) ?_
        refine aw_imul hO dX2_weigh_57 rfl ?_
        refine aw_iadd hO dX2_weigh_58 rfl ?_
        refine aw_istore (ls' := [some (vR 81), some (vI ((L : Nat) : Int)), some (vI (((L : Nat) : Int) / 100)), some (vI ((((L : Nat) : Int) / 10) % 10)), some (vI (((L : Nat) : Int) % 10)), some (vI ((i : Nat) : Int)), some (vI (((((L : Nat) : Int) / 100) * (ν.1 15 (4 * i + 0))) + (((((L : Nat) : Int) / 10) % 10) * (ν.1 15 (4 * i + 1)))))]) hO dX2_weigh_59 rfl (Nat.le_of_ble_eq_true rfl) rfl rfl ?_
        refine aw_aload_n hO dX2_weigh_61 rfl rfl ?_
        refine gC_X2_15_81 hO dX2_weigh_62 rfl ?_
        refine aw_iload hO dX2_weigh_65 rfl rfl ?_
        refine aw_iload hO dX2_weigh_67 rfl rfl ?_
        refine aw_iload hO dX2_weigh_69 rfl rfl ?_
        refine aw_aload_n hO dX2_weigh_71 rfl rfl ?_
        refine gC_X2_28_81 hO dX2_weigh_72 rfl ?_
        refine aw_iload hO dX2_weigh_75 rfl rfl ?_
        refine aw_iconst hO dX2_weigh_77 rfl ?_
        refine aw_callVI (as := [vI ((i : Nat) : Int), vI 2]) (st := [vI (((L : Nat) : Int) % 10), vI (((((L : Nat) : Int) / 100) * (ν.1 15 (4 * i + 0))) + (((((L : Nat) : Int) / 10) % 10) * (ν.1 15 (4 * i + 1)))), vI ((i : Nat) : Int), vR 83]) hO dX2_weigh_78 rfl (lw_t4 231 rfl rfl) kX9_trait (T := TX9) rfl (by decide) rfl (cJ_trait hJm (p := i) (k := 2) (by omega) (by omega)) (by decide) rfl rfl rfl (Nat.le_of_ble_eq_true rfl) ?_
        refine aw_imul hO dX2_weigh_81 rfl ?_
        refine aw_isub hO dX2_weigh_82 rfl ?_
        refine aw_i2l hO dX2_weigh_83 rfl ⟨by omega, by omega⟩ ?_
        refine aw_bipush hO dX2_weigh_84 rfl (by decide) (by decide) ?_
        refine aw_callSNI (as := [vL ((((((L : Nat) : Int) / 100) * (ν.1 15 (4 * i + 0))) + (((((L : Nat) : Int) / 10) % 10) * (ν.1 15 (4 * i + 1)))) - ((((L : Nat) : Int) % 10) * (ν.1 15 (4 * i + 2)))), vI 99]) (st := [vI ((i : Nat) : Int), vR 83]) hO dX2_weigh_86 rfl (lw_t4n 232 rfl rfl) kX11_within (ctC_within m (v := ((((((L : Nat) : Int) / 100) * (ν.1 15 (4 * i + 0))) + (((((L : Nat) : Int) / 10) % 10) * (ν.1 15 (4 * i + 1)))) - ((((L : Nat) : Int) % 10) * (ν.1 15 (4 * i + 2))))) (m := 99) ⟨by omega, by omega⟩ (by omega) (by omega)) (by decide) rfl rfl rfl (Nat.le_of_ble_eq_true rfl) ?_
        refine aw_iastn (N := 6) (i := i) hO dX2_weigh_89 rfl (by decide) rfl (by decide) rfl (by omega) ?_
        refine aw_mm (fun μ1 e_μ1 => ?_)
        refine aw_iinc (ls' := [some (vR 81), some (vI ((L : Nat) : Int)), some (vI (((L : Nat) : Int) / 100)), some (vI ((((L : Nat) : Int) / 10) % 10)), some (vI (((L : Nat) : Int) % 10)), some (vI (((i : Nat) : Int) + 1)), some (vI (((((L : Nat) : Int) / 100) * (ν.1 15 (4 * i + 0))) + (((((L : Nat) : Int) / 10) % 10) * (ν.1 15 (4 * i + 1)))))]) hO dX2_weigh_90 rfl rfl rfl rfl ?_
        refine aw_lsq (ls' := [some (vR 81), some (vI ((L : Nat) : Int)), some (vI (((L : Nat) : Int) / 100)), some (vI ((((L : Nat) : Int) / 10) % 10)), some (vI (((L : Nat) : Int) % 10)), some (vI (((i + 1) : Nat) : Int)), some (vI (((((L : Nat) : Int) / 100) * (ν.1 15 (4 * i + 0))) + (((((L : Nat) : Int) / 10) % 10) * (ν.1 15 (4 * i + 1)))))]) rfl ?_
        refine aw_goto (tgt := 22) hO dX2_weigh_93 rfl ?_
        refine aw_fg (ls' := [some (vR 81), some (vI ((L : Nat) : Int)), some (vI (((L : Nat) : Int) / 100)), some (vI ((((L : Nat) : Int) / 10) % 10)), some (vI (((L : Nat) : Int) % 10)), some (vI (((i + 1) : Nat) : Int)), none]) ⟨rfl, rfl, rfl, rfl, rfl, rfl, trivial⟩ ?_
        refine ih (i + 1) μ1 (by omega) ⟨by rw [e_μ1]; exact hm.1.st rfl _, fun p hp => ?_⟩
        rw [e_μ1]
        by_cases e : p = i
        · subst e; rw [mst_eq]; rfl
        · rw [mst_ni e]; exact hm.2 p (by omega)
  refine aw_lsq (ls' := [some (vR 81), some (vI ((L : Nat) : Int)), some (vI (((L : Nat) : Int) / 100)), some (vI ((((L : Nat) : Int) / 10) % 10)), some (vI (((L : Nat) : Int) % 10)), some (vI ((0 : Nat) : Int)), none]) rfl ?_
  exact lp (ν.1 0 25).toNat 0 μ (by omega) ⟨Fr.rf, fun p hp => absurd hp (Nat.not_lt_zero _)⟩
theorem dX2_add_0 : decode cX2_add 0 = .ok (.iconst 0, 1) := by decide +kernel
theorem dX2_add_1 : decode cX2_add 1 = .ok (.istore 4, 2) := by decide +kernel
theorem dX2_add_3 : decode cX2_add 3 = .ok (.iconst 0, 1) := by decide +kernel
theorem dX2_add_4 : decode cX2_add 4 = .ok (.istore 5, 2) := by decide +kernel
theorem dX2_add_6 : decode cX2_add 6 = .ok (.iload 5, 2) := by decide +kernel
theorem dX2_add_8 : decode cX2_add 8 = .ok (.aload_n 0, 1) := by decide +kernel
theorem dX2_add_9 : decode cX2_add 9 = .ok (.getfield 21, 3) := by decide +kernel
theorem dX2_add_12 : decode cX2_add 12 = .ok (.if_icmp .ge 58, 3) := by decide +kernel
theorem dX2_add_15 : decode cX2_add 15 = .ok (.aload_n 0, 1) := by decide +kernel
theorem dX2_add_16 : decode cX2_add 16 = .ok (.aload_n 0, 1) := by decide +kernel
theorem dX2_add_17 : decode cX2_add 17 = .ok (.getfield 11, 3) := by decide +kernel
theorem dX2_add_20 : decode cX2_add 20 = .ok (.iload 5, 2) := by decide +kernel
theorem dX2_add_22 : decode cX2_add 22 = .ok (.iaload, 1) := by decide +kernel
theorem dX2_add_23 : decode cX2_add 23 = .ok (.invokevirtual 32, 3) := by decide +kernel
theorem dX2_add_26 : decode cX2_add 26 = .ok (.aload_n 0, 1) := by decide +kernel
theorem dX2_add_27 : decode cX2_add 27 = .ok (.getfield 15, 3) := by decide +kernel
theorem dX2_add_30 : decode cX2_add 30 = .ok (.iload_n 1, 1) := by decide +kernel
theorem dX2_add_31 : decode cX2_add 31 = .ok (.invokestatic 36, 3) := by decide +kernel
theorem dX2_add_34 : decode cX2_add 34 = .ok (.iload_n 2, 1) := by decide +kernel
theorem dX2_add_35 : decode cX2_add 35 = .ok (.if_icmp .ne 7, 3) := by decide +kernel
theorem dX2_add_38 : decode cX2_add 38 = .ok (.iconst 1, 1) := by decide +kernel
theorem dX2_add_39 : decode cX2_add 39 = .ok (.goto 4, 3) := by decide +kernel
theorem dX2_add_42 : decode cX2_add 42 = .ok (.iconst 0, 1) := by decide +kernel
theorem dX2_add_43 : decode cX2_add 43 = .ok (.iload_n 3, 1) := by decide +kernel
theorem dX2_add_44 : decode cX2_add 44 = .ok (.if_icmp .ne 20, 3) := by decide +kernel
theorem dX2_add_47 : decode cX2_add 47 = .ok (.aload_n 0, 1) := by decide +kernel
theorem dX2_add_48 : decode cX2_add 48 = .ok (.getfield 11, 3) := by decide +kernel
theorem dX2_add_51 : decode cX2_add 51 = .ok (.iload 4, 2) := by decide +kernel
theorem dX2_add_53 : decode cX2_add 53 = .ok (.aload_n 0, 1) := by decide +kernel
theorem dX2_add_54 : decode cX2_add 54 = .ok (.getfield 11, 3) := by decide +kernel
theorem dX2_add_57 : decode cX2_add 57 = .ok (.iload 5, 2) := by decide +kernel
theorem dX2_add_59 : decode cX2_add 59 = .ok (.iaload, 1) := by decide +kernel
theorem dX2_add_60 : decode cX2_add 60 = .ok (.iastore, 1) := by decide +kernel
theorem dX2_add_61 : decode cX2_add 61 = .ok (.iinc 4 1, 3) := by decide +kernel
theorem dX2_add_64 : decode cX2_add 64 = .ok (.iinc 5 1, 3) := by decide +kernel
theorem dX2_add_67 : decode cX2_add 67 = .ok (.goto (-61), 3) := by decide +kernel
theorem dX2_add_70 : decode cX2_add 70 = .ok (.aload_n 0, 1) := by decide +kernel
theorem dX2_add_71 : decode cX2_add 71 = .ok (.iload 4, 2) := by decide +kernel
theorem dX2_add_73 : decode cX2_add 73 = .ok (.putfield 21, 3) := by decide +kernel
theorem dX2_add_76 : decode cX2_add 76 = .ok (.aload_n 0, 1) := by decide +kernel
theorem dX2_add_77 : decode cX2_add 77 = .ok (.dup, 1) := by decide +kernel
theorem dX2_add_78 : decode cX2_add 78 = .ok (.getfield 25, 3) := by decide +kernel
theorem dX2_add_81 : decode cX2_add 81 = .ok (.iconst 1, 1) := by decide +kernel
theorem dX2_add_82 : decode cX2_add 82 = .ok (.iadd, 1) := by decide +kernel
theorem dX2_add_83 : decode cX2_add 83 = .ok (.putfield 25, 3) := by decide +kernel
theorem dX2_add_86 : decode cX2_add 86 = .ok (.return_, 1) := by decide +kernel
set_option maxRecDepth 100000 in
theorem gC_X2_21_81 {Q : Option AV → Mm → Prop} {K : KT} {cc : ByteArray} {nL d : Nat} {ret : Option FieldType} {pc n : Nat} {ls : List (Option AV)} {st : List AV} {μ : Mm} (hO : KOk PC Q K cc RX2 nL d ret) (hd : decode cc pc = .ok (.getfield 21, 3)) (hn : pc + 3 = n) (kk : AW K n ls (vI (μ.1 81 4) :: st) μ) : AW K pc ls (vR 81 :: st) μ := aw_get (f := 4) hO hd hn okX2 (by decide) (lw_t2 27 rfl rfl) (by decide) rfl rfl rfl kk
set_option maxRecDepth 100000 in
theorem gC_X2_25_81 {Q : Option AV → Mm → Prop} {K : KT} {cc : ByteArray} {nL d : Nat} {ret : Option FieldType} {pc n : Nat} {ls : List (Option AV)} {st : List AV} {μ : Mm} (hO : KOk PC Q K cc RX2 nL d ret) (hd : decode cc pc = .ok (.getfield 25, 3)) (hn : pc + 3 = n) (kk : AW K n ls (vI (μ.1 81 5) :: st) μ) : AW K pc ls (vR 81 :: st) μ := aw_get (f := 5) hO hd hn okX2 (by decide) (lw_t2 29 rfl rfl) (by decide) rfl rfl rfl kk
set_option maxHeartbeats 4000000 in
set_option maxRecDepth 100000 in
theorem cJ_addG {μ ν : Mm} (h : JR0 μ ν) {P : Nat → Bool} (hFT : FT P μ) {s z : Int} {one : Nat} (hsb : ∀ q, q < 6 → hasB s q = true → q < (ν.1 0 25).toNat) (hone : one < 6) (hz : z = 0 ∨ z = 1) : CtV PC 2 yX2_add cX2_add 6 none [vR 81, vI s, vI ((one : Nat) : Int), vI z] μ (fun m => Fr gS μ m ∧ FT (fun l => P l && (qG ν s one z) l) m ∧ m.1 81 5 = μ.1 81 5 + 1) := by
  refine ct_intro [some (vR 81), some (vI s), some (vI ((one : Nat) : Int)), some (vI z), none, none] RX2 (by decide) rfl XCo rfl (Nat.le_of_ble_eq_true rfl) (fun K hO => ?_)
  have hnp := h.B.np
  have hnt := h.B.nt
  have hN0 := cntB_le P 1000
  have lp : ∀ (c : Nat) (i k : Nat) (m : Mm), (i + c = cntB P 1000) → (k = cntB (ceG ν μ s one z) i) → (Fr gS μ m ∧ m.1 81 = μ.1 81 ∧ (∀ j, i ≤ j → m.1 82 j = μ.1 82 j) ∧ (∀ j, j < i → (ceG ν μ s one z) j = true → m.1 82 (cntB (ceG ν μ s one z) j) = μ.1 82 j)) → AW K 6 [some (vR 81), some (vI s), some (vI ((one : Nat) : Int)), some (vI z), some (vI ((k : Nat) : Int)), some (vI ((i : Nat) : Int))] [] m := by
    intro c
    induction c with
    | zero =>
      intro i k m hi hk hm
      refine aw_iload hO dX2_add_6 rfl rfl ?_
      refine aw_aload_n hO dX2_add_8 rfl rfl ?_
      refine gC_X2_21_81 hO dX2_add_9 rfl ?_
      refine aw_cg (show m.1 81 4 = ((cntB P 1000 : Nat) : Int) by rw [hm.2.1]; exact hFT.1) ?_
      refine aw_icmp_ge (tgt := 70) hO dX2_add_12 rfl rfl (inRn (by omega)) (inRn (by omega)) (fun c12 => ?_) (fun c12 => ?_)
      · refine aw_aload_n hO dX2_add_70 rfl rfl ?_
        refine aw_iload hO dX2_add_71 rfl rfl ?_
        refine pC_X2_21_81 hO dX2_add_73 rfl ?_
        refine aw_mm (fun μ1 e_μ1 => ?_)
        refine aw_aload_n hO dX2_add_76 rfl rfl ?_
        refine aw_dup hO dX2_add_77 rfl rfl ?_
        refine gC_X2_25_81 hO dX2_add_78 rfl ?_
        refine aw_iconst hO dX2_add_81 rfl ?_
        refine aw_iadd hO dX2_add_82 rfl ?_
        refine pC_X2_25_81 hO dX2_add_83 rfl ?_
        refine aw_mm (fun μ2 e_μ2 => ?_)
        refine aw_vret hO dX2_add_86 ?_
        have hsub : ∀ L, L ≤ 1000 → cntB (fun l => P l && (qG ν s one z) l) L = cntB (ceG ν μ s one z) (cntB P L) := cnt_sub (Q := (qG ν s one z)) hFT
        have hN : cntB (fun l => P l && (qG ν s one z) l) 1000 = k := by rw [hsub 1000 (Nat.le_refl _), hk, show i = cntB P 1000 by omega]
        refine ⟨rfl, by rw [e_μ2, e_μ1]; exact (hm.1.st (Or.inr (Or.inr (Or.inr ⟨rfl, Or.inl rfl⟩))) _).st (Or.inr (Or.inr (Or.inr ⟨rfl, Or.inr rfl⟩))) _, ⟨by rw [hN, e_μ2, mst_ni (by decide), e_μ1, mst_eq], fun L hL hp => ?_⟩, by rw [e_μ2, mst_eq, e_μ1, mst_ni (by decide), hm.2.1]⟩
        have hp1 : P L = true := by simp only [Bool.and_eq_true] at hp; exact hp.1
        have hp2 : (qG ν s one z) L = true := by simp only [Bool.and_eq_true] at hp; exact hp.2
        have hi2 := cntB_mono P (show L + 1 ≤ 1000 by omega)
        rw [cntB_t hp1] at hi2
        have e1 := hFT.2 L hL hp1
        have := hm.2.2.2 (cntB P L) (by omega) (by show (qG ν s one z) (μ.1 82 (cntB P L)).toNat = true; rw [e1, Int.toNat_natCast]; exact hp2)
        rw [hsub L (by omega), e_μ2, mst_nk (by decide), e_μ1, mst_nk (by decide)]
        exact this.trans e1
      · exact absurd c12 (by omega)
    | succ c ih =>
      intro i k m hi hk hm
      have hN1 := cntB_le P 1000
      have hkl := cntB_le (ceG ν μ s one z) i
      have hJm := h.fg hm.1
      obtain ⟨L, hL, hPL, hcL, hLm⟩ := hFT.at (show i < cntB P 1000 by omega)
      have hLi : m.1 82 i = (L : Int) := by rw [hm.2.2.1 i (Nat.le_refl _)]; exact hLm
      refine aw_iload hO dX2_add_6 rfl rfl ?_
      refine aw_aload_n hO dX2_add_8 rfl rfl ?_
      refine gC_X2_21_81 hO dX2_add_9 rfl ?_
      refine aw_cg (show m.1 81 4 = ((cntB P 1000 : Nat) : Int) by rw [hm.2.1]; exact hFT.1) ?_
      refine aw_icmp_ge (tgt := 70) hO dX2_add_12 rfl rfl (inRn (by omega)) (inRn (by omega)) (fun c12 => ?_) (fun c12 => ?_)
      · exact absurd c12 (by omega)
      · refine aw_aload_n hO dX2_add_15 rfl rfl ?_
        refine aw_aload_n hO dX2_add_16 rfl rfl ?_
        refine gC_X2_11_81 hO dX2_add_17 rfl ?_
        refine aw_iload hO dX2_add_20 rfl rfl ?_
        refine aw_ialdn (N := 1000) (i := i) hO dX2_add_22 rfl (by decide) rfl (by decide) rfl (by omega) ?_
        refine aw_cg hLi ?_
        refine aw_callVV (as := [vI ((L : Nat) : Int)]) (st := []) hO dX2_add_23 rfl (lw_t4 227 rfl rfl) kX2_weigh (T := TX2) rfl (by decide) rfl (cJ_weighG hJm (L := L) (by omega)) (by decide) rfl rfl rfl (Nat.le_of_ble_eq_true rfl) (fun μ4 hq5 => ?_)
        have hF1 : Fr gS m μ4 := hq5.1.mono (fun _ _ e => Or.inr (Or.inl e))
        have hA1 := hq5.2
        have hR1 : ∀ q, q < 6 → hasB s q = true → InR (μ4.1 83 q) := fun q hq hb => by rw [hA1 q (hsb q hq hb)]; have := tapM_R ν L q; exact ⟨by omega, by omega⟩
        have hbe : best (fun q => hasB s q) (μ4.1 83) 6 = tpkM ν s L := by
          rw [best_cut' (n := (ν.1 0 25).toNat) (m := 6) (by omega) (fun q h1 h2 => by cases hb : hasB s q with | true => have := hsb q h2 hb; omega | false => rfl)]
          exact best_val _ (fun _ _ => rfl) (fun q hq _ => hA1 q hq)
        have hpr := best_rng (fun q => hasB s q) (tapM ν L) (ν.1 0 25).toNat
        have hpr2 : tpkM ν s L = -1 ∨ (0 ≤ tpkM ν s L ∧ tpkM ν s L < ((ν.1 0 25).toNat : Int)) := hpr
        have hL1 : μ4.1 82 i = (L : Int) := by rw [hq5.1.1 82 i (show ¬ (82 : Nat) = 83 by decide)]; exact hLi
        refine aw_aload_n hO dX2_add_26 rfl rfl ?_
        refine gC_X2_15_81 hO dX2_add_27 rfl ?_
        refine aw_iload_n hO dX2_add_30 rfl rfl ?_
        refine aw_callSNI (as := [vR 83, vI s]) (st := []) hO dX2_add_31 rfl (lw_t4n 233 rfl rfl) kX11_highest (ctC_highest μ4 (r := 83) (by decide) rfl hR1) (by decide) rfl rfl rfl (Nat.le_of_ble_eq_true rfl) ?_
        refine aw_cg hbe ?_
        refine aw_iload_n hO dX2_add_34 rfl rfl ?_
        refine aw_icmp_ne (tgt := 42) hO dX2_add_35 rfl rfl ⟨by omega, by omega⟩ (inRn (by omega)) (fun c35 => ?_) (fun c35 => ?_)
        · refine aw_iconst hO dX2_add_42 rfl ?_
          refine aw_iload_n hO dX2_add_43 rfl rfl ?_
          refine aw_icmp_ne (tgt := 64) hO dX2_add_44 rfl rfl (inRlit _) ⟨by omega, by omega⟩ (fun c44 => ?_) (fun c44 => ?_)
          · refine aw_iinc (ls' := [some (vR 81), some (vI s), some (vI ((one : Nat) : Int)), some (vI z), some (vI ((k : Nat) : Int)), some (vI (((i : Nat) : Int) + 1))]) hO dX2_add_64 rfl rfl rfl rfl ?_
            refine aw_lsq (ls' := [some (vR 81), some (vI s), some (vI ((one : Nat) : Int)), some (vI z), some (vI ((k : Nat) : Int)), some (vI (((i + 1) : Nat) : Int))]) rfl ?_
            refine aw_goto (tgt := 6) hO dX2_add_67 rfl ?_
            have hez := show (if tpkM ν s L = (one : Int) then (1 : Int) else 0) = 0 from if_neg c35
            have hce : (ceG ν μ s one z) i = decide ((if tpkM ν s L = (one : Int) then (1 : Int) else 0) = z) := by show qG ν s one z (μ.1 82 i).toNat = _; unfold qG; rw [← hm.2.2.1 i (Nat.le_refl _), hLi, Int.toNat_natCast]
            have hno : ¬ (ceG ν μ s one z) i = true := by rw [hce, hez]; simp only [decide_eq_true_eq]; exact c44
            refine aw_lsq (ls' := [some (vR 81), some (vI s), some (vI ((one : Nat) : Int)), some (vI z), some (vI ((k : Nat) : Int)), some (vI (((i + 1) : Nat) : Int))]) rfl ?_
            refine ih (i + 1) k μ4 (by omega) (by rw [cntB_f hno]; exact hk) ⟨hm.1.tr hF1, (funext fun x => hq5.1.1 81 x (show ¬ (81 : Nat) = 83 by decide)).trans hm.2.1, fun j hj => by rw [hq5.1.1 82 j (show ¬ (82 : Nat) = 83 by decide)]; exact hm.2.2.1 j (by omega), fun j hj hq => ?_⟩
            rw [hq5.1.1 82 _ (show ¬ (82 : Nat) = 83 by decide)]
            exact hm.2.2.2 j (by rcases Nat.lt_or_ge j i with y | y; exact y; exact absurd (show (ceG ν μ s one z) i = true by rw [show i = j by omega]; exact hq) hno) hq
          · refine aw_aload_n hO dX2_add_47 rfl rfl ?_
            refine gC_X2_11_81 hO dX2_add_48 rfl ?_
            refine aw_iload hO dX2_add_51 rfl rfl ?_
            refine aw_aload_n hO dX2_add_53 rfl rfl ?_
            refine gC_X2_11_81 hO dX2_add_54 rfl ?_
            refine aw_iload hO dX2_add_57 rfl rfl ?_
            refine aw_ialdn (N := 1000) (i := i) hO dX2_add_59 rfl (by decide) rfl (by decide) rfl (by omega) ?_
            refine aw_cg hL1 ?_
            refine aw_iastn (N := 1000) (i := k) hO dX2_add_60 rfl (by decide) rfl (by decide) rfl (by omega) ?_
            refine aw_mm (fun μ6 e_μ6 => ?_)
            refine aw_iinc (ls' := [some (vR 81), some (vI s), some (vI ((one : Nat) : Int)), some (vI z), some (vI (((k : Nat) : Int) + 1)), some (vI ((i : Nat) : Int))]) hO dX2_add_61 rfl rfl rfl rfl ?_
            refine aw_lsq (ls' := [some (vR 81), some (vI s), some (vI ((one : Nat) : Int)), some (vI z), some (vI (((k + 1) : Nat) : Int)), some (vI ((i : Nat) : Int))]) rfl ?_
            refine aw_iinc (ls' := [some (vR 81), some (vI s), some (vI ((one : Nat) : Int)), some (vI z), some (vI (((k + 1) : Nat) : Int)), some (vI (((i : Nat) : Int) + 1))]) hO dX2_add_64 rfl rfl rfl rfl ?_
            refine aw_lsq (ls' := [some (vR 81), some (vI s), some (vI ((one : Nat) : Int)), some (vI z), some (vI (((k + 1) : Nat) : Int)), some (vI (((i + 1) : Nat) : Int))]) rfl ?_
            refine aw_goto (tgt := 6) hO dX2_add_67 rfl ?_
            have hez := show (if tpkM ν s L = (one : Int) then (1 : Int) else 0) = 0 from if_neg c35
            have hce : (ceG ν μ s one z) i = decide ((if tpkM ν s L = (one : Int) then (1 : Int) else 0) = z) := by show qG ν s one z (μ.1 82 i).toNat = _; unfold qG; rw [← hm.2.2.1 i (Nat.le_refl _), hLi, Int.toNat_natCast]
            have hyes : (ceG ν μ s one z) i = true := by rw [hce, hez]; simp only [decide_eq_true_eq]; exact c44
            refine aw_lsq (ls' := [some (vR 81), some (vI s), some (vI ((one : Nat) : Int)), some (vI z), some (vI (((k + 1) : Nat) : Int)), some (vI (((i + 1) : Nat) : Int))]) rfl ?_
            refine ih (i + 1) (k + 1) μ6 (by omega) (by rw [cntB_t hyes, hk]) ⟨by rw [e_μ6]; exact (hm.1.tr hF1).st (Or.inl rfl) _, by rw [e_μ6]; exact (funext fun x => (mst_nk (by decide)).trans (hq5.1.1 81 x (show ¬ (81 : Nat) = 83 by decide))).trans hm.2.1, fun j hj => by rw [e_μ6, mst_ni (by omega), hq5.1.1 82 j (show ¬ (82 : Nat) = 83 by decide)]; exact hm.2.2.1 j (by omega), fun j hj hq => ?_⟩
            rw [e_μ6]
            by_cases e : j = i
            · subst e; rw [← hk, mst_eq, ← hm.2.2.1 j (Nat.le_refl _), hLi]
            · have hlt : cntB (ceG ν μ s one z) j < k := by have := cntB_mono (ceG ν μ s one z) (show j + 1 ≤ i by omega); rw [cntB_t hq] at this; omega
              rw [mst_ni (by omega), hq5.1.1 82 _ (show ¬ (82 : Nat) = 83 by decide)]; exact hm.2.2.2 j (by omega) hq
        · refine aw_iconst hO dX2_add_38 rfl ?_
          refine aw_goto (tgt := 43) hO dX2_add_39 rfl ?_
          refine aw_iload_n hO dX2_add_43 rfl rfl ?_
          refine aw_icmp_ne (tgt := 64) hO dX2_add_44 rfl rfl (inRlit _) ⟨by omega, by omega⟩ (fun c44 => ?_) (fun c44 => ?_)
          · refine aw_iinc (ls' := [some (vR 81), some (vI s), some (vI ((one : Nat) : Int)), some (vI z), some (vI ((k : Nat) : Int)), some (vI (((i : Nat) : Int) + 1))]) hO dX2_add_64 rfl rfl rfl rfl ?_
            refine aw_lsq (ls' := [some (vR 81), some (vI s), some (vI ((one : Nat) : Int)), some (vI z), some (vI ((k : Nat) : Int)), some (vI (((i + 1) : Nat) : Int))]) rfl ?_
            refine aw_goto (tgt := 6) hO dX2_add_67 rfl ?_
            have hez := show (if tpkM ν s L = (one : Int) then (1 : Int) else 0) = 1 from if_pos c35
            have hce : (ceG ν μ s one z) i = decide ((if tpkM ν s L = (one : Int) then (1 : Int) else 0) = z) := by show qG ν s one z (μ.1 82 i).toNat = _; unfold qG; rw [← hm.2.2.1 i (Nat.le_refl _), hLi, Int.toNat_natCast]
            have hno : ¬ (ceG ν μ s one z) i = true := by rw [hce, hez]; simp only [decide_eq_true_eq]; exact c44
            refine aw_lsq (ls' := [some (vR 81), some (vI s), some (vI ((one : Nat) : Int)), some (vI z), some (vI ((k : Nat) : Int)), some (vI (((i + 1) : Nat) : Int))]) rfl ?_
            refine ih (i + 1) k μ4 (by omega) (by rw [cntB_f hno]; exact hk) ⟨hm.1.tr hF1, (funext fun x => hq5.1.1 81 x (show ¬ (81 : Nat) = 83 by decide)).trans hm.2.1, fun j hj => by rw [hq5.1.1 82 j (show ¬ (82 : Nat) = 83 by decide)]; exact hm.2.2.1 j (by omega), fun j hj hq => ?_⟩
            rw [hq5.1.1 82 _ (show ¬ (82 : Nat) = 83 by decide)]
            exact hm.2.2.2 j (by rcases Nat.lt_or_ge j i with y | y; exact y; exact absurd (show (ceG ν μ s one z) i = true by rw [show i = j by omega]; exact hq) hno) hq
          · refine aw_aload_n hO dX2_add_47 rfl rfl ?_
            refine gC_X2_11_81 hO dX2_add_48 rfl ?_
            refine aw_iload hO dX2_add_51 rfl rfl ?_
            refine aw_aload_n hO dX2_add_53 rfl rfl ?_
            refine gC_X2_11_81 hO dX2_add_54 rfl ?_
            refine aw_iload hO dX2_add_57 rfl rfl ?_
            refine aw_ialdn (N := 1000) (i := i) hO dX2_add_59 rfl (by decide) rfl (by decide) rfl (by omega) ?_
            refine aw_cg hL1 ?_
            refine aw_iastn (N := 1000) (i := k) hO dX2_add_60 rfl (by decide) rfl (by decide) rfl (by omega) ?_
            refine aw_mm (fun μ7 e_μ7 => ?_)
            refine aw_iinc (ls' := [some (vR 81), some (vI s), some (vI ((one : Nat) : Int)), some (vI z), some (vI (((k : Nat) : Int) + 1)), some (vI ((i : Nat) : Int))]) hO dX2_add_61 rfl rfl rfl rfl ?_
            refine aw_lsq (ls' := [some (vR 81), some (vI s), some (vI ((one : Nat) : Int)), some (vI z), some (vI (((k + 1) : Nat) : Int)), some (vI ((i : Nat) : Int))]) rfl ?_
            refine aw_iinc (ls' := [some (vR 81), some (vI s), some (vI ((one : Nat) : Int)), some (vI z), some (vI (((k + 1) : Nat) : Int)), some (vI (((i : Nat) : Int) + 1))]) hO dX2_add_64 rfl rfl rfl rfl ?_
            refine aw_lsq (ls' := [some (vR 81), some (vI s), some (vI ((one : Nat) : Int)), some (vI z), some (vI (((k + 1) : Nat) : Int)), some (vI (((i + 1) : Nat) : Int))]) rfl ?_
            refine aw_goto (tgt := 6) hO dX2_add_67 rfl ?_
            have hez := show (if tpkM ν s L = (one : Int) then (1 : Int) else 0) = 1 from if_pos c35
            have hce : (ceG ν μ s one z) i = decide ((if tpkM ν s L = (one : Int) then (1 : Int) else 0) = z) := by show qG ν s one z (μ.1 82 i).toNat = _; unfold qG; rw [← hm.2.2.1 i (Nat.le_refl _), hLi, Int.toNat_natCast]
            have hyes : (ceG ν μ s one z) i = true := by rw [hce, hez]; simp only [decide_eq_true_eq]; exact c44
            refine aw_lsq (ls' := [some (vR 81), some (vI s), some (vI ((one : Nat) : Int)), some (vI z), some (vI (((k + 1) : Nat) : Int)), some (vI (((i + 1) : Nat) : Int))]) rfl ?_
            refine ih (i + 1) (k + 1) μ7 (by omega) (by rw [cntB_t hyes, hk]) ⟨by rw [e_μ7]; exact (hm.1.tr hF1).st (Or.inl rfl) _, by rw [e_μ7]; exact (funext fun x => (mst_nk (by decide)).trans (hq5.1.1 81 x (show ¬ (81 : Nat) = 83 by decide))).trans hm.2.1, fun j hj => by rw [e_μ7, mst_ni (by omega), hq5.1.1 82 j (show ¬ (82 : Nat) = 83 by decide)]; exact hm.2.2.1 j (by omega), fun j hj hq => ?_⟩
            rw [e_μ7]
            by_cases e : j = i
            · subst e; rw [← hk, mst_eq, ← hm.2.2.1 j (Nat.le_refl _), hLi]
            · have hlt : cntB (ceG ν μ s one z) j < k := by have := cntB_mono (ceG ν μ s one z) (show j + 1 ≤ i by omega); rw [cntB_t hq] at this; omega
              rw [mst_ni (by omega), hq5.1.1 82 _ (show ¬ (82 : Nat) = 83 by decide)]; exact hm.2.2.2 j (by omega) hq
  refine aw_iconst hO dX2_add_0 rfl ?_
  refine aw_istore (ls' := [some (vR 81), some (vI s), some (vI ((one : Nat) : Int)), some (vI z), some (vI 0), none]) hO dX2_add_1 rfl (Nat.le_of_ble_eq_true rfl) rfl rfl ?_
  refine aw_iconst hO dX2_add_3 rfl ?_
  refine aw_istore (ls' := [some (vR 81), some (vI s), some (vI ((one : Nat) : Int)), some (vI z), some (vI 0), some (vI 0)]) hO dX2_add_4 rfl (Nat.le_of_ble_eq_true rfl) rfl rfl ?_
  refine aw_lsq (ls' := [some (vR 81), some (vI s), some (vI ((one : Nat) : Int)), some (vI z), some (vI ((0 : Nat) : Int)), some (vI ((0 : Nat) : Int))]) rfl ?_
  exact lp (cntB P 1000) 0 0 μ (by omega) rfl ⟨Fr.rf, rfl, fun _ _ => rfl, fun j hj => absurd hj (Nat.not_lt_zero _)⟩
