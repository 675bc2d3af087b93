/-! ## the tape of the class -/
/-- its bytes; behind a rewind where to go on from each place -/
def TC (g : Nat → Int) (N : Nat) (μ : Mm) : Prop := Gok g N ∧ μ.1 1 2 = (N : Int) ∧ ∀ p, p < N → μ.1 2 p = g p
def TO (g : Nat → Int) (N : Nat) (μ : Mm) : Prop := TC g N μ ∧ ∀ p, p ≤ N → μ.1 3 p = ((sk g p : Nat) : Int)
theorem TC.fr {g : Nat → Int} {N : Nat} {μ m : Mm} (h : TC g N μ) (h1 : m.1 1 2 = μ.1 1 2) (h2 : m.1 2 = μ.1 2) : TC g N m := ⟨h.1, by rw [h1]; exact h.2.1, by rw [h2]; exact h.2.2⟩
theorem TO.fr {g : Nat → Int} {N : Nat} {μ m : Mm} (h : TO g N μ) (h1 : m.1 1 2 = μ.1 1 2) (h2 : m.1 2 = μ.1 2) (h3 : m.1 3 = μ.1 3) : TO g N m := ⟨h.1.fr h1 h2, by rw [h3]; exact h.2⟩
theorem TO.G {g : Nat → Int} {N : Nat} {μ : Mm} (h : TO g N μ) : Gok g N := h.1.1
theorem TO.st {g : Nat → Int} {N : Nat} {μ : Mm} (h : TO g N μ) {i : Nat} (hi : i ≠ 2) (v : Int) : TO g N (mst μ 1 i v) := h.fr (mst_ni (Ne.symm hi)) (funext fun _ => mst_nk (by decide)) (funext fun _ => mst_nk (by decide))
def tS (k i : Nat) : Prop := k = 1 ∧ (i = 3 ∨ i = 4)
theorem TO.ts {g : Nat → Int} {N : Nat} {μ m : Mm} (h : TO g N μ) (hF : Fr tS μ m) : TO g N m := h.fr (hF.1 1 2 (by unfold tS; omega)) (hF.fn (fun i => by unfold tS; omega)) (hF.fn (fun i => by unfold tS; omega))
theorem dX8_rewind_0 : decode cX8_rewind 0 = .ok (.aload_n 0, 1) := by decide +kernel
theorem dX8_rewind_1 : decode cX8_rewind 1 = .ok (.getfield 15, 3) := by decide +kernel
theorem dX8_rewind_4 : decode cX8_rewind 4 = .ok (.aload_n 0, 1) := by decide +kernel
theorem dX8_rewind_5 : decode cX8_rewind 5 = .ok (.getfield 19, 3) := by decide +kernel
theorem dX8_rewind_8 : decode cX8_rewind 8 = .ok (.aload_n 0, 1) := by decide +kernel
theorem dX8_rewind_9 : decode cX8_rewind 9 = .ok (.getfield 19, 3) := by decide +kernel
theorem dX8_rewind_12 : decode cX8_rewind 12 = .ok (.iastore, 1) := by decide +kernel
theorem dX8_rewind_13 : decode cX8_rewind 13 = .ok (.aload_n 0, 1) := by decide +kernel
theorem dX8_rewind_14 : decode cX8_rewind 14 = .ok (.getfield 19, 3) := by decide +kernel
theorem dX8_rewind_17 : decode cX8_rewind 17 = .ok (.iconst 1, 1) := by decide +kernel
theorem dX8_rewind_18 : decode cX8_rewind 18 = .ok (.isub, 1) := by decide +kernel
theorem dX8_rewind_19 : decode cX8_rewind 19 = .ok (.istore_n 1, 1) := by decide +kernel
theorem dX8_rewind_20 : decode cX8_rewind 20 = .ok (.iload_n 1, 1) := by decide +kernel
theorem dX8_rewind_21 : decode cX8_rewind 21 = .ok (.ifCond .lt 38, 3) := by decide +kernel
theorem dX8_rewind_24 : decode cX8_rewind 24 = .ok (.aload_n 0, 1) := by decide +kernel
theorem dX8_rewind_25 : decode cX8_rewind 25 = .ok (.getfield 15, 3) := by decide +kernel
theorem dX8_rewind_28 : decode cX8_rewind 28 = .ok (.iload_n 1, 1) := by decide +kernel
theorem dX8_rewind_29 : decode cX8_rewind 29 = .ok (.aload_n 0, 1) := by decide +kernel
theorem dX8_rewind_30 : decode cX8_rewind 30 = .ok (.getfield 9, 3) := by decide +kernel
theorem dX8_rewind_33 : decode cX8_rewind 33 = .ok (.iload_n 1, 1) := by decide +kernel
theorem dX8_rewind_34 : decode cX8_rewind 34 = .ok (.caload, 1) := by decide +kernel
theorem dX8_rewind_35 : decode cX8_rewind 35 = .ok (.bipush 32, 2) := by decide +kernel
theorem dX8_rewind_37 : decode cX8_rewind 37 = .ok (.if_icmp .ne 14, 3) := by decide +kernel
theorem dX8_rewind_40 : decode cX8_rewind 40 = .ok (.aload_n 0, 1) := by decide +kernel
theorem dX8_rewind_41 : decode cX8_rewind 41 = .ok (.getfield 15, 3) := by decide +kernel
theorem dX8_rewind_44 : decode cX8_rewind 44 = .ok (.iload_n 1, 1) := by decide +kernel
theorem dX8_rewind_45 : decode cX8_rewind 45 = .ok (.iconst 1, 1) := by decide +kernel
theorem dX8_rewind_46 : decode cX8_rewind 46 = .ok (.iadd, 1) := by decide +kernel
theorem dX8_rewind_47 : decode cX8_rewind 47 = .ok (.iaload, 1) := by decide +kernel
theorem dX8_rewind_48 : decode cX8_rewind 48 = .ok (.goto 4, 3) := by decide +kernel
theorem dX8_rewind_51 : decode cX8_rewind 51 = .ok (.iload_n 1, 1) := by decide +kernel
theorem dX8_rewind_52 : decode cX8_rewind 52 = .ok (.iastore, 1) := by decide +kernel
theorem dX8_rewind_53 : decode cX8_rewind 53 = .ok (.iinc 1 (-1), 3) := by decide +kernel
theorem dX8_rewind_56 : decode cX8_rewind 56 = .ok (.goto (-36), 3) := by decide +kernel
theorem dX8_rewind_59 : decode cX8_rewind 59 = .ok (.aload_n 0, 1) := by decide +kernel
theorem dX8_rewind_60 : decode cX8_rewind 60 = .ok (.aload_n 0, 1) := by decide +kernel
theorem dX8_rewind_61 : decode cX8_rewind 61 = .ok (.getfield 15, 3) := by decide +kernel
theorem dX8_rewind_64 : decode cX8_rewind 64 = .ok (.iconst 0, 1) := by decide +kernel
theorem dX8_rewind_65 : decode cX8_rewind 65 = .ok (.iaload, 1) := by decide +kernel
theorem dX8_rewind_66 : decode cX8_rewind 66 = .ok (.putfield 23, 3) := by decide +kernel
theorem dX8_rewind_69 : decode cX8_rewind 69 = .ok (.return_, 1) := by decide +kernel
set_option maxRecDepth 100000 in
theorem gC_X8_15_1 {Q : Option AV → Mm → Prop} {K : KT} {cc : ByteArray} {nL d : Nat} {ret : Option FieldType} {pc n : Nat} {ls : List (Option AV)} {st : List AV} {μ : Mm} (hO : KOk PC Q K cc RX8 nL d ret) (hd : decode cc pc = .ok (.getfield 15, 3)) (hn : pc + 3 = n) (kk : AW K n ls (vR 3 :: st) μ) : AW K pc ls (vR 1 :: st) μ := aw_get (f := 1) hO hd hn okX8 (by decide) (lw_t1 42 rfl rfl) (by decide) rfl rfl rfl kk
set_option maxRecDepth 100000 in
theorem gC_X8_19_1 {Q : Option AV → Mm → Prop} {K : KT} {cc : ByteArray} {nL d : Nat} {ret : Option FieldType} {pc n : Nat} {ls : List (Option AV)} {st : List AV} {μ : Mm} (hO : KOk PC Q K cc RX8 nL d ret) (hd : decode cc pc = .ok (.getfield 19, 3)) (hn : pc + 3 = n) (kk : AW K n ls (vI (μ.1 1 2) :: st) μ) : AW K pc ls (vR 1 :: st) μ := aw_get (f := 2) hO hd hn okX8 (by decide) (lw_t1 43 rfl rfl) (by decide) rfl rfl rfl kk
set_option maxRecDepth 100000 in
theorem pC_X8_23_1 {Q : Option AV → Mm → Prop} {K : KT} {cc : ByteArray} {nL d : Nat} {ret : Option FieldType} {pc n : Nat} {ls : List (Option AV)} {st : List AV} {μ : Mm} {a : Int} (hO : KOk PC Q K cc RX8 nL d ret) (hd : decode cc pc = .ok (.putfield 23, 3)) (hn : pc + 3 = n) (kk : AW K n ls st (mst μ 1 3 a)) : AW K pc ls (vI a :: vR 1 :: st) μ := aw_put (f := 3) hO hd hn okX8 tyX8_ok nmX8 (by decide) (lw_t1 45 rfl rfl) rfl rfl rfl (by decide) rfl rfl kk
set_option maxRecDepth 100000 in
theorem gC_X8_9_1 {Q : Option AV → Mm → Prop} {K : KT} {cc : ByteArray} {nL d : Nat} {ret : Option FieldType} {pc n : Nat} {ls : List (Option AV)} {st : List AV} {μ : Mm} (hO : KOk PC Q K cc RX8 nL d ret) (hd : decode cc pc = .ok (.getfield 9, 3)) (hn : pc + 3 = n) (kk : AW K n ls (vR 2 :: st) μ) : AW K pc ls (vR 1 :: st) μ := aw_get (f := 0) hO hd hn okX8 (by decide) (lw_t1 41 rfl rfl) (by decide) rfl rfl rfl kk
set_option maxHeartbeats 4000000 in
set_option maxRecDepth 100000 in
theorem cT_rewind {μ : Mm} {g : Nat → Int} {N : Nat} (h : TC g N μ) : CtV PC 0 yX8_rewind cX8_rewind 2 none [vR 1] μ (fun m => Fr (fun k i => k = 3 ∨ (k = 1 ∧ i = 3)) μ m ∧ TO g N m ∧ m.1 1 3 = ((sk g 0 : Nat) : Int)) := by
  refine ct_intro [some (vR 1), none] RX8 (by decide) rfl XCo rfl (Nat.le_of_ble_eq_true rfl) (fun K hO => ?_)
  have hN := h.1.1
  refine aw_aload_n hO dX8_rewind_0 rfl rfl ?_
  refine gC_X8_15_1 hO dX8_rewind_1 rfl ?_
  refine aw_aload_n hO dX8_rewind_4 rfl rfl ?_
  refine gC_X8_19_1 hO dX8_rewind_5 rfl ?_
  refine aw_cg h.2.1 ?_
  refine aw_aload_n hO dX8_rewind_8 rfl rfl ?_
  refine gC_X8_19_1 hO dX8_rewind_9 rfl ?_
  refine aw_cg h.2.1 ?_
  refine aw_iastn (N := 241) (i := N) hO dX8_rewind_12 rfl (by decide) rfl (by decide) rfl (by omega) ?_
  refine aw_mm (fun μ1 e_μ1 => ?_)
  have hTC_μ1 : TC g N μ1 := h.fr (by rw [e_μ1, mst_nk (by decide)]) (by rw [e_μ1]; exact funext fun _ => mst_nk (by decide))
  refine aw_aload_n hO dX8_rewind_13 rfl rfl ?_
  refine gC_X8_19_1 hO dX8_rewind_14 rfl ?_
  refine aw_cg hTC_μ1.2.1 ?_
  refine aw_iconst hO dX8_rewind_17 rfl ?_
  refine aw_isub hO dX8_rewind_18 rfl ?_
  refine aw_istore_n (ls' := [some (vR 1), some (vI (((N : Nat) : Int) - 1))]) hO dX8_rewind_19 rfl (Nat.le_of_ble_eq_true rfl) rfl rfl ?_
  have lp : ∀ (j : Nat) (m : Mm), j ≤ N → Fr (fun k _ => k = 3) μ m → (∀ p, j ≤ p → p ≤ N → m.1 3 p = ((sk g p : Nat) : Int)) → AW K 20 [some (vR 1), some (vI ((j : Int) - 1))] [] m := by
    intro j
    induction j with
    | zero =>
      intro m hj hF hO3
      have hTm : TC g N m := h.fr (hF.1 1 2 (by omega)) (hF.fn (fun i => by omega))
      refine aw_iload_n hO dX8_rewind_20 rfl rfl ?_
      refine aw_if_lt (tgt := 59) hO dX8_rewind_21 rfl rfl ⟨by omega, by omega⟩ (fun c21 => ?_) (fun c21 => ?_)
      · refine aw_aload_n hO dX8_rewind_59 rfl rfl ?_
        refine aw_aload_n hO dX8_rewind_60 rfl rfl ?_
        refine gC_X8_15_1 hO dX8_rewind_61 rfl ?_
        refine aw_iconst hO dX8_rewind_64 rfl ?_
        refine aw_ialdn (N := 241) (i := 0) hO dX8_rewind_65 rfl (by decide) rfl (by decide) rfl (by decide) ?_
        refine pC_X8_23_1 hO dX8_rewind_66 rfl ?_
        refine aw_mm (fun μ2 e_μ2 => ?_)
        refine aw_vret hO dX8_rewind_69 ?_
        exact ⟨rfl, by rw [e_μ2]; exact (hF.mono (fun k i e => Or.inl e)).st (Or.inr ⟨rfl, rfl⟩) _, ⟨hTm.fr (by rw [e_μ2, mst_ni (by decide)]) (by rw [e_μ2]; exact funext fun _ => mst_nk (by decide)), fun p hp => by rw [e_μ2, mst_nk (by decide)]; exact hO3 p (Nat.zero_le _) hp⟩, by rw [e_μ2, mst_eq]; exact hO3 0 (Nat.le_refl _) (Nat.zero_le _)⟩
      · exact absurd c21 (by omega)
    | succ j ih =>
      intro m hj hF hO3
      have hTm : TC g N m := h.fr (hF.1 1 2 (by omega)) (hF.fn (fun i => by omega))
      refine aw_lsq (ls' := [some (vR 1), some (vI ((j : Nat) : Int))]) (by rw [show (((j + 1 : Nat) : Int) - 1) = ((j : Nat) : Int) by omega]) ?_
      have hgr := h.1.rng j
      refine aw_iload_n hO dX8_rewind_20 rfl rfl ?_
      refine aw_if_lt (tgt := 59) hO dX8_rewind_21 rfl rfl (inRn (by omega)) (fun c21 => ?_) (fun c21 => ?_)
      · exact absurd c21 (by omega)
      · refine aw_aload_n hO dX8_rewind_24 rfl rfl ?_
        refine gC_X8_15_1 hO dX8_rewind_25 rfl ?_
        refine aw_iload_n hO dX8_rewind_28 rfl rfl ?_
        refine aw_aload_n hO dX8_rewind_29 rfl rfl ?_
        refine gC_X8_9_1 hO dX8_rewind_30 rfl ?_
        refine aw_iload_n hO dX8_rewind_33 rfl rfl ?_
        refine aw_cald (N := 240) (i := j) hO dX8_rewind_34 rfl (by decide) rfl (by decide) rfl (by omega) ?_
        refine aw_cg (hTm.2.2 j (by omega)) ?_
        refine aw_bipush hO dX8_rewind_35 rfl (by decide) (by decide) ?_
        refine aw_icmp_ne (tgt := 51) hO dX8_rewind_37 rfl rfl ⟨by omega, by omega⟩ (inRlit _) (fun c37 => ?_) (fun c37 => ?_)
        · refine aw_iload_n hO dX8_rewind_51 rfl rfl ?_
          refine aw_iastn (N := 241) (i := j) hO dX8_rewind_52 rfl (by decide) rfl (by decide) rfl (by omega) ?_
          refine aw_mm (fun μ3 e_μ3 => ?_)
          refine aw_iinc (ls' := [some (vR 1), some (vI (((j : Nat) : Int) + (-1)))]) hO dX8_rewind_53 rfl rfl rfl rfl ?_
          refine aw_goto (tgt := 20) hO dX8_rewind_56 rfl ?_
          refine aw_lsq (ls' := [some (vR 1), some (vI (((j : Nat) : Int) - 1))]) rfl ?_
          refine ih μ3 (by omega) (by rw [e_μ3]; exact hF.st rfl _) (fun p h1 h2 => ?_)
          rw [e_μ3]
          by_cases e : p = j
          · rw [e, mst_eq, sk_f h.1 c37]
          · rw [mst_ni e]; exact hO3 p (by omega) h2
        · refine aw_aload_n hO dX8_rewind_40 rfl rfl ?_
          refine gC_X8_15_1 hO dX8_rewind_41 rfl ?_
          refine aw_iload_n hO dX8_rewind_44 rfl rfl ?_
          refine aw_iconst hO dX8_rewind_45 rfl ?_
          refine aw_iadd hO dX8_rewind_46 rfl ?_
          refine aw_ialdn (N := 241) (i := (j + 1)) hO dX8_rewind_47 rfl (by decide) rfl (by decide) (by omega) (by omega) ?_
          refine aw_goto (tgt := 52) hO dX8_rewind_48 rfl ?_
          refine aw_iastn (N := 241) (i := j) hO dX8_rewind_52 rfl (by decide) rfl (by decide) rfl (by omega) ?_
          refine aw_mm (fun μ4 e_μ4 => ?_)
          refine aw_iinc (ls' := [some (vR 1), some (vI (((j : Nat) : Int) + (-1)))]) hO dX8_rewind_53 rfl rfl rfl rfl ?_
          refine aw_goto (tgt := 20) hO dX8_rewind_56 rfl ?_
          refine aw_lsq (ls' := [some (vR 1), some (vI (((j : Nat) : Int) - 1))]) rfl ?_
          refine ih μ4 (by omega) (by rw [e_μ4]; exact hF.st rfl _) (fun p h1 h2 => ?_)
          rw [e_μ4]
          by_cases e : p = j
          · rw [e, mst_eq, hO3 (j + 1) (by omega) (by omega), sk_t h.1 c37]
          · rw [mst_ni e]; exact hO3 p (by omega) h2
  exact lp N μ1 (Nat.le_refl _) (by rw [e_μ1]; exact Fr.st (S := fun k _ => k = 3) Fr.rf rfl _) (fun p h1 h2 => by rw [show p = N by omega, e_μ1, mst_eq, sk_f h.1 (by rw [h.1.2.2 N (Nat.le_refl _)]; decide)])
theorem dX8_sign_0 : decode cX8_sign 0 = .ok (.aload_n 0, 1) := by decide +kernel
theorem dX8_sign_1 : decode cX8_sign 1 = .ok (.getfield 23, 3) := by decide +kernel
theorem dX8_sign_4 : decode cX8_sign 4 = .ok (.aload_n 0, 1) := by decide +kernel
theorem dX8_sign_5 : decode cX8_sign 5 = .ok (.getfield 19, 3) := by decide +kernel
theorem dX8_sign_8 : decode cX8_sign 8 = .ok (.if_icmp .ge 15, 3) := by decide +kernel
theorem dX8_sign_11 : decode cX8_sign 11 = .ok (.aload_n 0, 1) := by decide +kernel
theorem dX8_sign_12 : decode cX8_sign 12 = .ok (.getfield 9, 3) := by decide +kernel
theorem dX8_sign_15 : decode cX8_sign 15 = .ok (.aload_n 0, 1) := by decide +kernel
theorem dX8_sign_16 : decode cX8_sign 16 = .ok (.getfield 23, 3) := by decide +kernel
theorem dX8_sign_19 : decode cX8_sign 19 = .ok (.caload, 1) := by decide +kernel
theorem dX8_sign_20 : decode cX8_sign 20 = .ok (.goto 4, 3) := by decide +kernel
theorem dX8_sign_23 : decode cX8_sign 23 = .ok (.iconst (-1), 1) := by decide +kernel
theorem dX8_sign_24 : decode cX8_sign 24 = .ok (.ireturn, 1) := by decide +kernel
set_option maxRecDepth 100000 in
theorem gC_X8_23_1 {Q : Option AV → Mm → Prop} {K : KT} {cc : ByteArray} {nL d : Nat} {ret : Option FieldType} {pc n : Nat} {ls : List (Option AV)} {st : List AV} {μ : Mm} (hO : KOk PC Q K cc RX8 nL d ret) (hd : decode cc pc = .ok (.getfield 23, 3)) (hn : pc + 3 = n) (kk : AW K n ls (vI (μ.1 1 3) :: st) μ) : AW K pc ls (vR 1 :: st) μ := aw_get (f := 3) hO hd hn okX8 (by decide) (lw_t1 45 rfl rfl) (by decide) rfl rfl rfl kk
set_option maxHeartbeats 4000000 in
set_option maxRecDepth 100000 in
theorem cT_sign {μ : Mm} {g : Nat → Int} {N a : Nat} (h : TC g N μ) (ha : μ.1 1 3 = (a : Int)) (haN : a ≤ N)  : CtI PC 0 yX8_sign cX8_sign 1 (some .int) [vR 1] μ (g a) := by
  refine ct_intro [some (vR 1)] RX8 (by decide) rfl XCo rfl (Nat.le_of_ble_eq_true rfl) (fun K hO => ?_)
  have hN := h.1.1
  refine aw_aload_n hO dX8_sign_0 rfl rfl ?_
  refine gC_X8_23_1 hO dX8_sign_1 rfl ?_
  refine aw_cg ha ?_
  refine aw_aload_n hO dX8_sign_4 rfl rfl ?_
  refine gC_X8_19_1 hO dX8_sign_5 rfl ?_
  refine aw_cg h.2.1 ?_
  refine aw_icmp_ge (tgt := 23) hO dX8_sign_8 rfl rfl (inRn (by omega)) (inRn (by omega)) (fun c8 => ?_) (fun c8 => ?_)
  · refine aw_iconst hO dX8_sign_23 rfl ?_
    refine aw_iret hO dX8_sign_24 ?_
    exact rI (by rw [h.1.2.2 a (by omega)])
  · refine aw_aload_n hO dX8_sign_11 rfl rfl ?_
    refine gC_X8_9_1 hO dX8_sign_12 rfl ?_
    refine aw_aload_n hO dX8_sign_15 rfl rfl ?_
    refine gC_X8_23_1 hO dX8_sign_16 rfl ?_
    refine aw_cg ha ?_
    refine aw_cald (N := 240) (i := a) hO dX8_sign_19 rfl (by decide) rfl (by decide) rfl (by omega) ?_
    refine aw_cg (h.2.2 a (by omega)) ?_
    refine aw_goto (tgt := 24) hO dX8_sign_20 rfl ?_
    refine aw_iret hO dX8_sign_24 ?_
    exact rI rfl
theorem dX8_takes_0 : decode cX8_takes 0 = .ok (.aload_n 0, 1) := by decide +kernel
theorem dX8_takes_1 : decode cX8_takes 1 = .ok (.getfield 23, 3) := by decide +kernel
theorem dX8_takes_4 : decode cX8_takes 4 = .ok (.aload_n 0, 1) := by decide +kernel
theorem dX8_takes_5 : decode cX8_takes 5 = .ok (.getfield 19, 3) := by decide +kernel
theorem dX8_takes_8 : decode cX8_takes 8 = .ok (.if_icmp .ge 16, 3) := by decide +kernel
theorem dX8_takes_11 : decode cX8_takes 11 = .ok (.aload_n 0, 1) := by decide +kernel
theorem dX8_takes_12 : decode cX8_takes 12 = .ok (.getfield 9, 3) := by decide +kernel
theorem dX8_takes_15 : decode cX8_takes 15 = .ok (.aload_n 0, 1) := by decide +kernel
theorem dX8_takes_16 : decode cX8_takes 16 = .ok (.getfield 23, 3) := by decide +kernel
theorem dX8_takes_19 : decode cX8_takes 19 = .ok (.caload, 1) := by decide +kernel
theorem dX8_takes_20 : decode cX8_takes 20 = .ok (.iload_n 1, 1) := by decide +kernel
theorem dX8_takes_21 : decode cX8_takes 21 = .ok (.if_icmp .eq 5, 3) := by decide +kernel
theorem dX8_takes_24 : decode cX8_takes 24 = .ok (.iconst 0, 1) := by decide +kernel
theorem dX8_takes_25 : decode cX8_takes 25 = .ok (.ireturn, 1) := by decide +kernel
theorem dX8_takes_26 : decode cX8_takes 26 = .ok (.aload_n 0, 1) := by decide +kernel
theorem dX8_takes_27 : decode cX8_takes 27 = .ok (.aload_n 0, 1) := by decide +kernel
theorem dX8_takes_28 : decode cX8_takes 28 = .ok (.getfield 15, 3) := by decide +kernel
theorem dX8_takes_31 : decode cX8_takes 31 = .ok (.aload_n 0, 1) := by decide +kernel
theorem dX8_takes_32 : decode cX8_takes 32 = .ok (.getfield 23, 3) := by decide +kernel
theorem dX8_takes_35 : decode cX8_takes 35 = .ok (.iconst 1, 1) := by decide +kernel
theorem dX8_takes_36 : decode cX8_takes 36 = .ok (.iadd, 1) := by decide +kernel
theorem dX8_takes_37 : decode cX8_takes 37 = .ok (.iaload, 1) := by decide +kernel
theorem dX8_takes_38 : decode cX8_takes 38 = .ok (.putfield 23, 3) := by decide +kernel
theorem dX8_takes_41 : decode cX8_takes 41 = .ok (.iconst 1, 1) := by decide +kernel
theorem dX8_takes_42 : decode cX8_takes 42 = .ok (.ireturn, 1) := by decide +kernel
set_option maxHeartbeats 4000000 in
set_option maxRecDepth 100000 in
theorem cT_takes {μ : Mm} {g : Nat → Int} {N a : Nat} (h : TO g N μ) (ha : μ.1 1 3 = (a : Int)) (haN : a ≤ N) {c : Int} (hc : 0 ≤ c) (hc2 : c ≤ 65535)  : CtE PC 0 yX8_takes cX8_takes 2 (some .boolean) [vR 1, vI c] μ (fun r m => r = (if g a = c then 1 else 0) ∧ m = (if g a = c then mst μ 1 3 ((sk g (a + 1) : Nat) : Int) else μ)) := by
  refine ct_intro [some (vR 1), some (vI c)] RX8 (by decide) rfl XCo rfl (Nat.le_of_ble_eq_true rfl) (fun K hO => ?_)
  have hN := h.G.1
  have hgr := h.G.rng a
  refine aw_aload_n hO dX8_takes_0 rfl rfl ?_
  refine gC_X8_23_1 hO dX8_takes_1 rfl ?_
  refine aw_cg ha ?_
  refine aw_aload_n hO dX8_takes_4 rfl rfl ?_
  refine gC_X8_19_1 hO dX8_takes_5 rfl ?_
  refine aw_cg h.1.2.1 ?_
  refine aw_icmp_ge (tgt := 24) hO dX8_takes_8 rfl rfl (inRn (by omega)) (inRn (by omega)) (fun c8 => ?_) (fun c8 => ?_)
  · refine aw_iconst hO dX8_takes_24 rfl ?_
    refine aw_zret hO dX8_takes_25 (Or.inl rfl) ?_
    exact ⟨_, rfl, by rw [if_neg (by rw [h.G.2.2 a (by omega)]; omega)], by rw [if_neg (by rw [h.G.2.2 a (by omega)]; omega)]⟩
  · refine aw_aload_n hO dX8_takes_11 rfl rfl ?_
    refine gC_X8_9_1 hO dX8_takes_12 rfl ?_
    refine aw_aload_n hO dX8_takes_15 rfl rfl ?_
    refine gC_X8_23_1 hO dX8_takes_16 rfl ?_
    refine aw_cg ha ?_
    refine aw_cald (N := 240) (i := a) hO dX8_takes_19 rfl (by decide) rfl (by decide) rfl (by omega) ?_
    refine aw_cg (h.1.2.2 a (by omega)) ?_
    refine aw_iload_n hO dX8_takes_20 rfl rfl ?_
    refine aw_icmp_eq (tgt := 26) hO dX8_takes_21 rfl rfl ⟨by omega, by omega⟩ ⟨by omega, by omega⟩ (fun c21 => ?_) (fun c21 => ?_)
    · refine aw_aload_n hO dX8_takes_26 rfl rfl ?_
      refine aw_aload_n hO dX8_takes_27 rfl rfl ?_
      refine gC_X8_15_1 hO dX8_takes_28 rfl ?_
      refine aw_aload_n hO dX8_takes_31 rfl rfl ?_
      refine gC_X8_23_1 hO dX8_takes_32 rfl ?_
      refine aw_cg ha ?_
      refine aw_iconst hO dX8_takes_35 rfl ?_
      refine aw_iadd hO dX8_takes_36 rfl ?_
      refine aw_ialdn (N := 241) (i := (a + 1)) hO dX8_takes_37 rfl (by decide) rfl (by decide) (by omega) (by omega) ?_
      refine aw_cg (h.2 (a + 1) (by omega)) ?_
      refine pC_X8_23_1 hO dX8_takes_38 rfl ?_
      refine aw_mm (fun μ1 e_μ1 => ?_)
      refine aw_iconst hO dX8_takes_41 rfl ?_
      refine aw_zret hO dX8_takes_42 (Or.inr rfl) ?_
      exact ⟨_, rfl, by rw [if_pos c21], by rw [if_pos c21, e_μ1]⟩
    · refine aw_iconst hO dX8_takes_24 rfl ?_
      refine aw_zret hO dX8_takes_25 (Or.inl rfl) ?_
      exact ⟨_, rfl, by rw [if_neg c21], by rw [if_neg c21]⟩
theorem dX8_number_0 : decode cX8_number 0 = .ok (.aload_n 0, 1) := by decide +kernel
theorem dX8_number_1 : decode cX8_number 1 = .ok (.getfield 23, 3) := by decide +kernel
theorem dX8_number_4 : decode cX8_number 4 = .ok (.istore_n 2, 1) := by decide +kernel
theorem dX8_number_5 : decode cX8_number 5 = .ok (.iconst 0, 1) := by decide +kernel
theorem dX8_number_6 : decode cX8_number 6 = .ok (.istore_n 3, 1) := by decide +kernel
theorem dX8_number_7 : decode cX8_number 7 = .ok (.aload_n 0, 1) := by decide +kernel
theorem dX8_number_8 : decode cX8_number 8 = .ok (.getfield 23, 3) := by decide +kernel
theorem dX8_number_11 : decode cX8_number 11 = .ok (.aload_n 0, 1) := by decide +kernel
theorem dX8_number_12 : decode cX8_number 12 = .ok (.getfield 19, 3) := by decide +kernel
theorem dX8_number_15 : decode cX8_number 15 = .ok (.if_icmp .ge 74, 3) := by decide +kernel
theorem dX8_number_18 : decode cX8_number 18 = .ok (.aload_n 0, 1) := by decide +kernel
theorem dX8_number_19 : decode cX8_number 19 = .ok (.getfield 9, 3) := by decide +kernel
theorem dX8_number_22 : decode cX8_number 22 = .ok (.aload_n 0, 1) := by decide +kernel
theorem dX8_number_23 : decode cX8_number 23 = .ok (.getfield 23, 3) := by decide +kernel
theorem dX8_number_26 : decode cX8_number 26 = .ok (.caload, 1) := by decide +kernel
theorem dX8_number_27 : decode cX8_number 27 = .ok (.bipush 48, 2) := by decide +kernel
theorem dX8_number_29 : decode cX8_number 29 = .ok (.if_icmp .lt 60, 3) := by decide +kernel
theorem dX8_number_32 : decode cX8_number 32 = .ok (.aload_n 0, 1) := by decide +kernel
theorem dX8_number_33 : decode cX8_number 33 = .ok (.getfield 9, 3) := by decide +kernel
theorem dX8_number_36 : decode cX8_number 36 = .ok (.aload_n 0, 1) := by decide +kernel
theorem dX8_number_37 : decode cX8_number 37 = .ok (.getfield 23, 3) := by decide +kernel
theorem dX8_number_40 : decode cX8_number 40 = .ok (.caload, 1) := by decide +kernel
theorem dX8_number_41 : decode cX8_number 41 = .ok (.bipush 57, 2) := by decide +kernel
theorem dX8_number_43 : decode cX8_number 43 = .ok (.if_icmp .gt 46, 3) := by decide +kernel
theorem dX8_number_46 : decode cX8_number 46 = .ok (.aload_n 0, 1) := by decide +kernel
theorem dX8_number_47 : decode cX8_number 47 = .ok (.getfield 23, 3) := by decide +kernel
theorem dX8_number_50 : decode cX8_number 50 = .ok (.iload_n 2, 1) := by decide +kernel
theorem dX8_number_51 : decode cX8_number 51 = .ok (.isub, 1) := by decide +kernel
theorem dX8_number_52 : decode cX8_number 52 = .ok (.iload_n 1, 1) := by decide +kernel
theorem dX8_number_53 : decode cX8_number 53 = .ok (.if_icmp .ne 5, 3) := by decide +kernel
theorem dX8_number_56 : decode cX8_number 56 = .ok (.iconst (-1), 1) := by decide +kernel
theorem dX8_number_57 : decode cX8_number 57 = .ok (.ireturn, 1) := by decide +kernel
theorem dX8_number_58 : decode cX8_number 58 = .ok (.bipush 10, 2) := by decide +kernel
theorem dX8_number_60 : decode cX8_number 60 = .ok (.iload_n 3, 1) := by decide +kernel
theorem dX8_number_61 : decode cX8_number 61 = .ok (.imul, 1) := by decide +kernel
theorem dX8_number_62 : decode cX8_number 62 = .ok (.aload_n 0, 1) := by decide +kernel
theorem dX8_number_63 : decode cX8_number 63 = .ok (.getfield 9, 3) := by decide +kernel
theorem dX8_number_66 : decode cX8_number 66 = .ok (.aload_n 0, 1) := by decide +kernel
theorem dX8_number_67 : decode cX8_number 67 = .ok (.getfield 23, 3) := by decide +kernel
theorem dX8_number_70 : decode cX8_number 70 = .ok (.caload, 1) := by decide +kernel
theorem dX8_number_71 : decode cX8_number 71 = .ok (.iadd, 1) := by decide +kernel
theorem dX8_number_72 : decode cX8_number 72 = .ok (.bipush 48, 2) := by decide +kernel
theorem dX8_number_74 : decode cX8_number 74 = .ok (.isub, 1) := by decide +kernel
theorem dX8_number_75 : decode cX8_number 75 = .ok (.istore_n 3, 1) := by decide +kernel
theorem dX8_number_76 : decode cX8_number 76 = .ok (.aload_n 0, 1) := by decide +kernel
theorem dX8_number_77 : decode cX8_number 77 = .ok (.dup, 1) := by decide +kernel
theorem dX8_number_78 : decode cX8_number 78 = .ok (.getfield 23, 3) := by decide +kernel
theorem dX8_number_81 : decode cX8_number 81 = .ok (.iconst 1, 1) := by decide +kernel
theorem dX8_number_82 : decode cX8_number 82 = .ok (.iadd, 1) := by decide +kernel
theorem dX8_number_83 : decode cX8_number 83 = .ok (.putfield 23, 3) := by decide +kernel
theorem dX8_number_86 : decode cX8_number 86 = .ok (.goto (-79), 3) := by decide +kernel
theorem dX8_number_89 : decode cX8_number 89 = .ok (.aload_n 0, 1) := by decide +kernel
theorem dX8_number_90 : decode cX8_number 90 = .ok (.getfield 23, 3) := by decide +kernel
theorem dX8_number_93 : decode cX8_number 93 = .ok (.iload_n 2, 1) := by decide +kernel
theorem dX8_number_94 : decode cX8_number 94 = .ok (.if_icmp .ne 5, 3) := by decide +kernel
theorem dX8_number_97 : decode cX8_number 97 = .ok (.iconst (-1), 1) := by decide +kernel
theorem dX8_number_98 : decode cX8_number 98 = .ok (.ireturn, 1) := by decide +kernel
theorem dX8_number_99 : decode cX8_number 99 = .ok (.aload_n 0, 1) := by decide +kernel
theorem dX8_number_100 : decode cX8_number 100 = .ok (.aload_n 0, 1) := by decide +kernel
theorem dX8_number_101 : decode cX8_number 101 = .ok (.getfield 23, 3) := by decide +kernel
theorem dX8_number_104 : decode cX8_number 104 = .ok (.iconst 1, 1) := by decide +kernel
theorem dX8_number_105 : decode cX8_number 105 = .ok (.isub, 1) := by decide +kernel
theorem dX8_number_106 : decode cX8_number 106 = .ok (.putfield 26, 3) := by decide +kernel
theorem dX8_number_109 : decode cX8_number 109 = .ok (.aload_n 0, 1) := by decide +kernel
theorem dX8_number_110 : decode cX8_number 110 = .ok (.aload_n 0, 1) := by decide +kernel
theorem dX8_number_111 : decode cX8_number 111 = .ok (.getfield 15, 3) := by decide +kernel
theorem dX8_number_114 : decode cX8_number 114 = .ok (.aload_n 0, 1) := by decide +kernel
theorem dX8_number_115 : decode cX8_number 115 = .ok (.getfield 23, 3) := by decide +kernel
theorem dX8_number_118 : decode cX8_number 118 = .ok (.iaload, 1) := by decide +kernel
theorem dX8_number_119 : decode cX8_number 119 = .ok (.putfield 23, 3) := by decide +kernel
theorem dX8_number_122 : decode cX8_number 122 = .ok (.iload_n 3, 1) := by decide +kernel
theorem dX8_number_123 : decode cX8_number 123 = .ok (.ireturn, 1) := by decide +kernel
theorem pDg_0 {g : Nat → Int} {p : Nat} {v : Int} (h : ¬ isD (g p)) : pDg g 0 p v = (p, some v) := by rw [pDg, if_neg h]
theorem pDg_s {g : Nat → Int} {k p : Nat} {v : Int} (h : ¬ isD (g p)) : pDg g (k + 1) p v = (p, some v) := by rw [pDg, if_neg h]
theorem pDg_t0 {g : Nat → Int} {p : Nat} {v : Int} (h : isD (g p)) : pDg g 0 p v = (p, none) := by rw [pDg, if_pos h]
theorem pDg_t {g : Nat → Int} {k p : Nat} {v : Int} (h : isD (g p)) : pDg g (k + 1) p v = pDg g k (p + 1) (10 * v + g p - 48) := by rw [pDg, if_pos h]
theorem pow4 {t : Nat} (h : t ≤ 4) : (10 : Int) ^ t ≤ 10000 := by
  have hc : t = 0 ∨ t = 1 ∨ t = 2 ∨ t = 3 ∨ t = 4 := by omega
  rcases hc with rfl | rfl | rfl | rfl | rfl <;> decide
set_option maxRecDepth 100000 in
theorem pC_X8_26_1 {Q : Option AV → Mm → Prop} {K : KT} {cc : ByteArray} {nL d : Nat} {ret : Option FieldType} {pc n : Nat} {ls : List (Option AV)} {st : List AV} {μ : Mm} {a : Int} (hO : KOk PC Q K cc RX8 nL d ret) (hd : decode cc pc = .ok (.putfield 26, 3)) (hn : pc + 3 = n) (kk : AW K n ls st (mst μ 1 4 a)) : AW K pc ls (vI a :: vR 1 :: st) μ := aw_put (f := 4) hO hd hn okX8 tyX8_ok nmX8 (by decide) (lw_t1 48 rfl rfl) rfl rfl rfl (by decide) rfl rfl kk
set_option maxHeartbeats 4000000 in
set_option maxRecDepth 100000 in
theorem cT_number {μ : Mm} {g : Nat → Int} {N a : Nat} (h : TO g N μ) (ha : μ.1 1 3 = (a : Int)) (haN : a ≤ N) {k : Nat} (hk : k ≤ 4) : CtE PC 0 yX8_number cX8_number 4 (some .int) [vR 1, vI ((k : Nat) : Int)] μ (fun r m => Fr tS μ m ∧ (∀ q, pDg g k a 0 = (q, none) → r = -1 ∧ m.1 1 3 = (q : Int)) ∧ (∀ q v, pDg g k a 0 = (q, some v) → (q = a → r = -1 ∧ m.1 1 3 = (a : Int)) ∧ (q ≠ a → r = v ∧ m.1 1 3 = ((sk g q : Nat) : Int) ∧ m.1 1 4 = (q : Int) - 1))) := by
  refine ct_intro [some (vR 1), some (vI ((k : Nat) : Int)), none, none] RX8 (by decide) rfl XCo rfl (Nat.le_of_ble_eq_true rfl) (fun K hO => ?_)
  have hN := h.G.1
  refine aw_aload_n hO dX8_number_0 rfl rfl ?_
  refine gC_X8_23_1 hO dX8_number_1 rfl ?_
  refine aw_cg ha ?_
  refine aw_istore_n (ls' := [some (vR 1), some (vI ((k : Nat) : Int)), some (vI ((a : Nat) : Int)), none]) hO dX8_number_4 rfl (Nat.le_of_ble_eq_true rfl) rfl rfl ?_
  refine aw_iconst hO dX8_number_5 rfl ?_
  refine aw_istore_n (ls' := [some (vR 1), some (vI ((k : Nat) : Int)), some (vI ((a : Nat) : Int)), some (vI 0)]) hO dX8_number_6 rfl (Nat.le_of_ble_eq_true rfl) rfl rfl ?_
  have lp : ∀ (n p : Nat) (v : Int) (m : Mm), n + p = a + k → a ≤ p → p ≤ N → 0 ≤ v → v < 10 ^ (p - a) → Fr tS μ m → m.1 1 3 = (p : Int) → pDg g n p v = pDg g k a 0 → AW K 7 [some (vR 1), some (vI ((k : Nat) : Int)), some (vI ((a : Nat) : Int)), some (vI v)] [] m := by
    intro n
    induction n with
    | zero =>
      intro p v m hnp hap hpN hv hvb hF hp3 hD
      have hTm := h.ts hF
      have hgr := h.G.rng p
      have hp4 : (10 : Int) ^ (p - a) ≤ 10000 := pow4 (by omega)
      refine aw_aload_n hO dX8_number_7 rfl rfl ?_
      refine gC_X8_23_1 hO dX8_number_8 rfl ?_
      refine aw_cg hp3 ?_
      refine aw_aload_n hO dX8_number_11 rfl rfl ?_
      refine gC_X8_19_1 hO dX8_number_12 rfl ?_
      refine aw_cg hTm.1.2.1 ?_
      refine aw_icmp_ge (tgt := 89) hO dX8_number_15 rfl rfl (inRn (by omega)) (inRn (by omega)) (fun c15 => ?_) (fun c15 => ?_)
      · refine aw_aload_n hO dX8_number_89 rfl rfl ?_
        refine gC_X8_23_1 hO dX8_number_90 rfl ?_
        refine aw_cg hp3 ?_
        refine aw_iload_n hO dX8_number_93 rfl rfl ?_
        refine aw_icmp_ne (tgt := 99) hO dX8_number_94 rfl rfl (inRn (by omega)) (inRn (by omega)) (fun c94 => ?_) (fun c94 => ?_)
        · refine aw_aload_n hO dX8_number_99 rfl rfl ?_
          refine aw_aload_n hO dX8_number_100 rfl rfl ?_
          refine gC_X8_23_1 hO dX8_number_101 rfl ?_
          refine aw_cg hp3 ?_
          refine aw_iconst hO dX8_number_104 rfl ?_
          refine aw_isub hO dX8_number_105 rfl ?_
          refine pC_X8_26_1 hO dX8_number_106 rfl ?_
          refine aw_mm (fun μ1 e_μ1 => ?_)
          refine aw_aload_n hO dX8_number_109 rfl rfl ?_
          refine aw_aload_n hO dX8_number_110 rfl rfl ?_
          refine gC_X8_15_1 hO dX8_number_111 rfl ?_
          refine aw_aload_n hO dX8_number_114 rfl rfl ?_
          refine gC_X8_23_1 hO dX8_number_115 rfl ?_
          refine aw_cg (show μ1.1 1 3 = (p : Int) by rw [e_μ1, mst_ni (by decide)]; exact hp3) ?_
          refine aw_ialdn (N := 241) (i := p) hO dX8_number_118 rfl (by decide) rfl (by decide) rfl (by omega) ?_
          refine aw_cg (show μ1.1 3 p = ((sk g p : Nat) : Int) by rw [e_μ1, mst_nk (by decide)]; exact hTm.2 p (by omega)) ?_
          refine pC_X8_23_1 hO dX8_number_119 rfl ?_
          refine aw_mm (fun μ2 e_μ2 => ?_)
          refine aw_iload_n hO dX8_number_122 rfl rfl ?_
          refine aw_iret hO dX8_number_123 ?_
          have hnd : ¬ isD (g p) := by rw [h.G.2.2 p (by omega)]; unfold isD; omega
          rw [pDg_0 hnd] at hD
          exact ⟨_, rfl, by rw [e_μ2, e_μ1]; exact (hF.st ⟨rfl, Or.inr rfl⟩ _).st ⟨rfl, Or.inl rfl⟩ _, fun q e => (by rw [← hD] at e; simp at e), fun q v2 e => (by rw [← hD] at e; simp only [Prod.mk.injEq, Option.some.injEq] at e; obtain ⟨rfl, rfl⟩ := e; exact ⟨fun z => absurd (show ((p : Nat) : Int) = (a : Int) by omega) c94, fun _ => ⟨rfl, by rw [e_μ2, mst_eq], by rw [e_μ2, mst_ni (by decide), e_μ1, mst_eq]⟩⟩)⟩
        · refine aw_iconst hO dX8_number_97 rfl ?_
          refine aw_iret hO dX8_number_98 ?_
          have hnd : ¬ isD (g p) := by rw [h.G.2.2 p (by omega)]; unfold isD; omega
          rw [pDg_0 hnd] at hD
          exact ⟨_, rfl, hF, fun q e => (by rw [← hD] at e; simp at e), fun q v2 e => (by rw [← hD] at e; simp only [Prod.mk.injEq, Option.some.injEq] at e; exact ⟨fun _ => ⟨rfl, by rw [hp3]; omega⟩, fun z => absurd (show q = a by omega) z⟩)⟩
      · refine aw_aload_n hO dX8_number_18 rfl rfl ?_
        refine gC_X8_9_1 hO dX8_number_19 rfl ?_
        refine aw_aload_n hO dX8_number_22 rfl rfl ?_
        refine gC_X8_23_1 hO dX8_number_23 rfl ?_
        refine aw_cg hp3 ?_
        refine aw_cald (N := 240) (i := p) hO dX8_number_26 rfl (by decide) rfl (by decide) rfl (by omega) ?_
        refine aw_cg (hTm.1.2.2 p (by omega)) ?_
        refine aw_bipush hO dX8_number_27 rfl (by decide) (by decide) ?_
        refine aw_icmp_lt (tgt := 89) hO dX8_number_29 rfl rfl ⟨by omega, by omega⟩ (inRlit _) (fun c29 => ?_) (fun c29 => ?_)
        · refine aw_aload_n hO dX8_number_89 rfl rfl ?_
          refine gC_X8_23_1 hO dX8_number_90 rfl ?_
          refine aw_cg hp3 ?_
          refine aw_iload_n hO dX8_number_93 rfl rfl ?_
          refine aw_icmp_ne (tgt := 99) hO dX8_number_94 rfl rfl (inRn (by omega)) (inRn (by omega)) (fun c94 => ?_) (fun c94 => ?_)
          · refine aw_aload_n hO dX8_number_99 rfl rfl ?_
            refine aw_aload_n hO dX8_number_100 rfl rfl ?_
            refine gC_X8_23_1 hO dX8_number_101 rfl ?_
            refine aw_cg hp3 ?_
            refine aw_iconst hO dX8_number_104 rfl ?_
            refine aw_isub hO dX8_number_105 rfl ?_
            refine pC_X8_26_1 hO dX8_number_106 rfl ?_
            refine aw_mm (fun μ3 e_μ3 => ?_)
            refine aw_aload_n hO dX8_number_109 rfl rfl ?_
            refine aw_aload_n hO dX8_number_110 rfl rfl ?_
            refine gC_X8_15_1 hO dX8_number_111 rfl ?_
            refine aw_aload_n hO dX8_number_114 rfl rfl ?_
            refine gC_X8_23_1 hO dX8_number_115 rfl ?_
            refine aw_cg (show μ3.1 1 3 = (p : Int) by rw [e_μ3, mst_ni (by decide)]; exact hp3) ?_
            refine aw_ialdn (N := 241) (i := p) hO dX8_number_118 rfl (by decide) rfl (by decide) rfl (by omega) ?_
            refine aw_cg (show μ3.1 3 p = ((sk g p : Nat) : Int) by rw [e_μ3, mst_nk (by decide)]; exact hTm.2 p (by omega)) ?_
            refine pC_X8_23_1 hO dX8_number_119 rfl ?_
            refine aw_mm (fun μ4 e_μ4 => ?_)
            refine aw_iload_n hO dX8_number_122 rfl rfl ?_
            refine aw_iret hO dX8_number_123 ?_
            have hnd : ¬ isD (g p) := by unfold isD; omega
            rw [pDg_0 hnd] at hD
            exact ⟨_, rfl, by rw [e_μ4, e_μ3]; exact (hF.st ⟨rfl, Or.inr rfl⟩ _).st ⟨rfl, Or.inl rfl⟩ _, fun q e => (by rw [← hD] at e; simp at e), fun q v2 e => (by rw [← hD] at e; simp only [Prod.mk.injEq, Option.some.injEq] at e; obtain ⟨rfl, rfl⟩ := e; exact ⟨fun z => absurd (show ((p : Nat) : Int) = (a : Int) by omega) c94, fun _ => ⟨rfl, by rw [e_μ4, mst_eq], by rw [e_μ4, mst_ni (by decide), e_μ3, mst_eq]⟩⟩)⟩
          · refine aw_iconst hO dX8_number_97 rfl ?_
            refine aw_iret hO dX8_number_98 ?_
            have hnd : ¬ isD (g p) := by unfold isD; omega
            rw [pDg_0 hnd] at hD
            exact ⟨_, rfl, hF, fun q e => (by rw [← hD] at e; simp at e), fun q v2 e => (by rw [← hD] at e; simp only [Prod.mk.injEq, Option.some.injEq] at e; exact ⟨fun _ => ⟨rfl, by rw [hp3]; omega⟩, fun z => absurd (show q = a by omega) z⟩)⟩
        · refine aw_aload_n hO dX8_number_32 rfl rfl ?_
          refine gC_X8_9_1 hO dX8_number_33 rfl ?_
          refine aw_aload_n hO dX8_number_36 rfl rfl ?_
          refine gC_X8_23_1 hO dX8_number_37 rfl ?_
          refine aw_cg hp3 ?_
          refine aw_cald (N := 240) (i := p) hO dX8_number_40 rfl (by decide) rfl (by decide) rfl (by omega) ?_
          refine aw_cg (hTm.1.2.2 p (by omega)) ?_
          refine aw_bipush hO dX8_number_41 rfl (by decide) (by decide) ?_
          refine aw_icmp_gt (tgt := 89) hO dX8_number_43 rfl rfl ⟨by omega, by omega⟩ (inRlit _) (fun c43 => ?_) (fun c43 => ?_)
          · refine aw_aload_n hO dX8_number_89 rfl rfl ?_
            refine gC_X8_23_1 hO dX8_number_90 rfl ?_
            refine aw_cg hp3 ?_
            refine aw_iload_n hO dX8_number_93 rfl rfl ?_
            refine aw_icmp_ne (tgt := 99) hO dX8_number_94 rfl rfl (inRn (by omega)) (inRn (by omega)) (fun c94 => ?_) (fun c94 => ?_)
            · refine aw_aload_n hO dX8_number_99 rfl rfl ?_
              refine aw_aload_n hO dX8_number_100 rfl rfl ?_
              refine gC_X8_23_1 hO dX8_number_101 rfl ?_
              refine aw_cg hp3 ?_
              refine aw_iconst hO dX8_number_104 rfl ?_
              refine aw_isub hO dX8_number_105 rfl ?_
              refine pC_X8_26_1 hO dX8_number_106 rfl ?_
              refine aw_mm (fun μ5 e_μ5 => ?_)
              refine aw_aload_n hO dX8_number_109 rfl rfl ?_
              refine aw_aload_n hO dX8_number_110 rfl rfl ?_
              refine gC_X8_15_1 hO dX8_number_111 rfl ?_
              refine aw_aload_n hO dX8_number_114 rfl rfl ?_
              refine gC_X8_23_1 hO dX8_number_115 rfl ?_
              refine aw_cg (show μ5.1 1 3 = (p : Int) by rw [e_μ5, mst_ni (by decide)]; exact hp3) ?_
              refine aw_ialdn (N := 241) (i := p) hO dX8_number_118 rfl (by decide) rfl (by decide) rfl (by omega) ?_
              refine aw_cg (show μ5.1 3 p = ((sk g p : Nat) : Int) by rw [e_μ5, mst_nk (by decide)]; exact hTm.2 p (by omega)) ?_
              refine pC_X8_23_1 hO dX8_number_119 rfl ?_
              refine aw_mm (fun μ6 e_μ6 => ?_)
              refine aw_iload_n hO dX8_number_122 rfl rfl ?_
              refine aw_iret hO dX8_number_123 ?_
              have hnd : ¬ isD (g p) := by unfold isD; omega
              rw [pDg_0 hnd] at hD
              exact ⟨_, rfl, by rw [e_μ6, e_μ5]; exact (hF.st ⟨rfl, Or.inr rfl⟩ _).st ⟨rfl, Or.inl rfl⟩ _, fun q e => (by rw [← hD] at e; simp at e), fun q v2 e => (by rw [← hD] at e; simp only [Prod.mk.injEq, Option.some.injEq] at e; obtain ⟨rfl, rfl⟩ := e; exact ⟨fun z => absurd (show ((p : Nat) : Int) = (a : Int) by omega) c94, fun _ => ⟨rfl, by rw [e_μ6, mst_eq], by rw [e_μ6, mst_ni (by decide), e_μ5, mst_eq]⟩⟩)⟩
            · refine aw_iconst hO dX8_number_97 rfl ?_
              refine aw_iret hO dX8_number_98 ?_
              have hnd : ¬ isD (g p) := by unfold isD; omega
              rw [pDg_0 hnd] at hD
              exact ⟨_, rfl, hF, fun q e => (by rw [← hD] at e; simp at e), fun q v2 e => (by rw [← hD] at e; simp only [Prod.mk.injEq, Option.some.injEq] at e; exact ⟨fun _ => ⟨rfl, by rw [hp3]; omega⟩, fun z => absurd (show q = a by omega) z⟩)⟩
          · refine aw_aload_n hO dX8_number_46 rfl rfl ?_
            refine gC_X8_23_1 hO dX8_number_47 rfl ?_
            refine aw_cg hp3 ?_
            refine aw_iload_n hO dX8_number_50 rfl rfl ?_
            refine aw_isub hO dX8_number_51 rfl ?_
            refine aw_iload_n hO dX8_number_52 rfl rfl ?_
            refine aw_icmp_ne (tgt := 58) hO dX8_number_53 rfl rfl ⟨by omega, by omega⟩ (inRn (by omega)) (fun c53 => ?_) (fun c53 => ?_)
            · exact absurd c53 (by omega)
            · refine aw_iconst hO dX8_number_56 rfl ?_
              refine aw_iret hO dX8_number_57 ?_
              have hdd : isD (g p) := ⟨c29, c43⟩
              rw [pDg_t0 hdd] at hD
              exact ⟨_, rfl, hF, fun q e => (by rw [← hD] at e; simp only [Prod.mk.injEq, and_true] at e; exact ⟨rfl, by rw [hp3, e]⟩), fun q v2 e => (by rw [← hD] at e; simp at e)⟩
    | succ n ih =>
      intro p v m hnp hap hpN hv hvb hF hp3 hD
      have hTm := h.ts hF
      have hgr := h.G.rng p
      have hp4 : (10 : Int) ^ (p - a) ≤ 10000 := pow4 (by omega)
      refine aw_aload_n hO dX8_number_7 rfl rfl ?_
      refine gC_X8_23_1 hO dX8_number_8 rfl ?_
      refine aw_cg hp3 ?_
      refine aw_aload_n hO dX8_number_11 rfl rfl ?_
      refine gC_X8_19_1 hO dX8_number_12 rfl ?_
      refine aw_cg hTm.1.2.1 ?_
      refine aw_icmp_ge (tgt := 89) hO dX8_number_15 rfl rfl (inRn (by omega)) (inRn (by omega)) (fun c15 => ?_) (fun c15 => ?_)
      · refine aw_aload_n hO dX8_number_89 rfl rfl ?_
        refine gC_X8_23_1 hO dX8_number_90 rfl ?_
        refine aw_cg hp3 ?_
        refine aw_iload_n hO dX8_number_93 rfl rfl ?_
        refine aw_icmp_ne (tgt := 99) hO dX8_number_94 rfl rfl (inRn (by omega)) (inRn (by omega)) (fun c94 => ?_) (fun c94 => ?_)
        · refine aw_aload_n hO dX8_number_99 rfl rfl ?_
          refine aw_aload_n hO dX8_number_100 rfl rfl ?_
          refine gC_X8_23_1 hO dX8_number_101 rfl ?_
          refine aw_cg hp3 ?_
          refine aw_iconst hO dX8_number_104 rfl ?_
          refine aw_isub hO dX8_number_105 rfl ?_
          refine pC_X8_26_1 hO dX8_number_106 rfl ?_
          refine aw_mm (fun μ7 e_μ7 => ?_)
          refine aw_aload_n hO dX8_number_109 rfl rfl ?_
          refine aw_aload_n hO dX8_number_110 rfl rfl ?_
          refine gC_X8_15_1 hO dX8_number_111 rfl ?_
          refine aw_aload_n hO dX8_number_114 rfl rfl ?_
          refine gC_X8_23_1 hO dX8_number_115 rfl ?_
          refine aw_cg (show μ7.1 1 3 = (p : Int) by rw [e_μ7, mst_ni (by decide)]; exact hp3) ?_
          refine aw_ialdn (N := 241) (i := p) hO dX8_number_118 rfl (by decide) rfl (by decide) rfl (by omega) ?_
          refine aw_cg (show μ7.1 3 p = ((sk g p : Nat) : Int) by rw [e_μ7, mst_nk (by decide)]; exact hTm.2 p (by omega)) ?_
          refine pC_X8_23_1 hO dX8_number_119 rfl ?_
          refine aw_mm (fun μ8 e_μ8 => ?_)
          refine aw_iload_n hO dX8_number_122 rfl rfl ?_
          refine aw_iret hO dX8_number_123 ?_
          have hnd : ¬ isD (g p) := by rw [h.G.2.2 p (by omega)]; unfold isD; omega
          rw [pDg_s hnd] at hD
          exact ⟨_, rfl, by rw [e_μ8, e_μ7]; exact (hF.st ⟨rfl, Or.inr rfl⟩ _).st ⟨rfl, Or.inl rfl⟩ _, fun q e => (by rw [← hD] at e; simp at e), fun q v2 e => (by rw [← hD] at e; simp only [Prod.mk.injEq, Option.some.injEq] at e; obtain ⟨rfl, rfl⟩ := e; exact ⟨fun z => absurd (show ((p : Nat) : Int) = (a : Int) by omega) c94, fun _ => ⟨rfl, by rw [e_μ8, mst_eq], by rw [e_μ8, mst_ni (by decide), e_μ7, mst_eq]⟩⟩)⟩
        · refine aw_iconst hO dX8_number_97 rfl ?_
          refine aw_iret hO dX8_number_98 ?_
          have hnd : ¬ isD (g p) := by rw [h.G.2.2 p (by omega)]; unfold isD; omega
          rw [pDg_s hnd] at hD
          exact ⟨_, rfl, hF, fun q e => (by rw [← hD] at e; simp at e), fun q v2 e => (by rw [← hD] at e; simp only [Prod.mk.injEq, Option.some.injEq] at e; exact ⟨fun _ => ⟨rfl, by rw [hp3]; omega⟩, fun z => absurd (show q = a by omega) z⟩)⟩
      · refine aw_aload_n hO dX8_number_18 rfl rfl ?_
        refine gC_X8_9_1 hO dX8_number_19 rfl ?_
        refine aw_aload_n hO dX8_number_22 rfl rfl ?_
        refine gC_X8_23_1 hO dX8_number_23 rfl ?_
        refine aw_cg hp3 ?_
        refine aw_cald (N := 240) (i := p) hO dX8_number_26 rfl (by decide) rfl (by decide) rfl (by omega) ?_
        refine aw_cg (hTm.1.2.2 p (by omega)) ?_
        refine aw_bipush hO dX8_number_27 rfl (by decide) (by decide) ?_
        refine aw_icmp_lt (tgt := 89) hO dX8_number_29 rfl rfl ⟨by omega, by omega⟩ (inRlit _) (fun c29 => ?_) (fun c29 => ?_)
        · refine aw_aload_n hO dX8_number_89 rfl rfl ?_
          refine gC_X8_23_1 hO dX8_number_90 rfl ?_
          refine aw_cg hp3 ?_
          refine aw_iload_n hO dX8_number_93 rfl rfl ?_
          refine aw_icmp_ne (tgt := 99) hO dX8_number_94 rfl rfl (inRn (by omega)) (inRn (by omega)) (fun c94 => ?_) (fun c94 => ?_)
          · refine aw_aload_n hO dX8_number_99 rfl rfl ?_
            refine aw_aload_n hO dX8_number_100 rfl rfl ?_
            refine gC_X8_23_1 hO dX8_number_101 rfl ?_
            refine aw_cg hp3 ?_
            refine aw_iconst hO dX8_number_104 rfl ?_
            refine aw_isub hO dX8_number_105 rfl ?_
            refine pC_X8_26_1 hO dX8_number_106 rfl ?_
            refine aw_mm (fun μ9 e_μ9 => ?_)
            refine aw_aload_n hO dX8_number_109 rfl rfl ?_
            refine aw_aload_n hO dX8_number_110 rfl rfl ?_
            refine gC_X8_15_1 hO dX8_number_111 rfl ?_
            refine aw_aload_n hO dX8_number_114 rfl rfl ?_
            refine gC_X8_23_1 hO dX8_number_115 rfl ?_
            refine aw_cg (show μ9.1 1 3 = (p : Int) by rw [e_μ9, mst_ni (by decide)]; exact hp3) ?_
            refine aw_ialdn (N := 241) (i := p) hO dX8_number_118 rfl (by decide) rfl (by decide) rfl (by omega) ?_
            refine aw_cg (show μ9.1 3 p = ((sk g p : Nat) : Int) by rw [e_μ9, mst_nk (by decide)]; exact hTm.2 p (by omega)) ?_
            refine pC_X8_23_1 hO dX8_number_119 rfl ?_
            refine aw_mm (fun μ10 e_μ10 => ?_)
            refine aw_iload_n hO dX8_number_122 rfl rfl ?_
            refine aw_iret hO dX8_number_123 ?_
            have hnd : ¬ isD (g p) := by unfold isD; omega
            rw [pDg_s hnd] at hD
            exact ⟨_, rfl, by rw [e_μ10, e_μ9]; exact (hF.st ⟨rfl, Or.inr rfl⟩ _).st ⟨rfl, Or.inl rfl⟩ _, fun q e => (by rw [← hD] at e; simp at e), fun q v2 e => (by rw [← hD] at e; simp only [Prod.mk.injEq, Option.some.injEq] at e; obtain ⟨rfl, rfl⟩ := e; exact ⟨fun z => absurd (show ((p : Nat) : Int) = (a : Int) by omega) c94, fun _ => ⟨rfl, by rw [e_μ10, mst_eq], by rw [e_μ10, mst_ni (by decide), e_μ9, mst_eq]⟩⟩)⟩
          · refine aw_iconst hO dX8_number_97 rfl ?_
            refine aw_iret hO dX8_number_98 ?_
            have hnd : ¬ isD (g p) := by unfold isD; omega
            rw [pDg_s hnd] at hD
            exact ⟨_, rfl, hF, fun q e => (by rw [← hD] at e; simp at e), fun q v2 e => (by rw [← hD] at e; simp only [Prod.mk.injEq, Option.some.injEq] at e; exact ⟨fun _ => ⟨rfl, by rw [hp3]; omega⟩, fun z => absurd (show q = a by omega) z⟩)⟩
        · refine aw_aload_n hO dX8_number_32 rfl rfl ?_
          refine gC_X8_9_1 hO dX8_number_33 rfl ?_
          refine aw_aload_n hO dX8_number_36 rfl rfl ?_
          refine gC_X8_23_1 hO dX8_number_37 rfl ?_
          refine aw_cg hp3 ?_
          refine aw_cald (N := 240) (i := p) hO dX8_number_40 rfl (by decide) rfl (by decide) rfl (by omega) ?_
          refine aw_cg (hTm.1.2.2 p (by omega)) ?_
          refine aw_bipush hO dX8_number_41 rfl (by decide) (by decide) ?_
          refine aw_icmp_gt (tgt := 89) hO dX8_number_43 rfl rfl ⟨by omega, by omega⟩ (inRlit _) (fun c43 => ?_) (fun c43 => ?_)
          · refine aw_aload_n hO dX8_number_89 rfl rfl ?_
            refine gC_X8_23_1 hO dX8_number_90 rfl ?_
            refine aw_cg hp3 ?_
            refine aw_iload_n hO dX8_number_93 rfl rfl ?_
            refine aw_icmp_ne (tgt := 99) hO dX8_number_94 rfl rfl (inRn (by omega)) (inRn (by omega)) (fun c94 => ?_) (fun c94 => ?_)
            · refine aw_aload_n hO dX8_number_99 rfl rfl ?_
              refine aw_aload_n hO dX8_number_100 rfl rfl ?_
              refine gC_X8_23_1 hO dX8_number_101 rfl ?_
              refine aw_cg hp3 ?_
              refine aw_iconst hO dX8_number_104 rfl ?_
              refine aw_isub hO dX8_number_105 rfl ?_
              refine pC_X8_26_1 hO dX8_number_106 rfl ?_
              refine aw_mm (fun μ11 e_μ11 => ?_)
              refine aw_aload_n hO dX8_number_109 rfl rfl ?_
              refine aw_aload_n hO dX8_number_110 rfl rfl ?_
              refine gC_X8_15_1 hO dX8_number_111 rfl ?_
              refine aw_aload_n hO dX8_number_114 rfl rfl ?_
              refine gC_X8_23_1 hO dX8_number_115 rfl ?_
              refine aw_cg (show μ11.1 1 3 = (p : Int) by rw [e_μ11, mst_ni (by decide)]; exact hp3) ?_
              refine aw_ialdn (N := 241) (i := p) hO dX8_number_118 rfl (by decide) rfl (by decide) rfl (by omega) ?_
              refine aw_cg (show μ11.1 3 p = ((sk g p : Nat) : Int) by rw [e_μ11, mst_nk (by decide)]; exact hTm.2 p (by omega)) ?_
              refine pC_X8_23_1 hO dX8_number_119 rfl ?_
              refine aw_mm (fun μ12 e_μ12 => ?_)
              refine aw_iload_n hO dX8_number_122 rfl rfl ?_
              refine aw_iret hO dX8_number_123 ?_
              have hnd : ¬ isD (g p) := by unfold isD; omega
              rw [pDg_s hnd] at hD
              exact ⟨_, rfl, by rw [e_μ12, e_μ11]; exact (hF.st ⟨rfl, Or.inr rfl⟩ _).st ⟨rfl, Or.inl rfl⟩ _, fun q e => (by rw [← hD] at e; simp at e), fun q v2 e => (by rw [← hD] at e; simp only [Prod.mk.injEq, Option.some.injEq] at e; obtain ⟨rfl, rfl⟩ := e; exact ⟨fun z => absurd (show ((p : Nat) : Int) = (a : Int) by omega) c94, fun _ => ⟨rfl, by rw [e_μ12, mst_eq], by rw [e_μ12, mst_ni (by decide), e_μ11, mst_eq]⟩⟩)⟩
            · refine aw_iconst hO dX8_number_97 rfl ?_
              refine aw_iret hO dX8_number_98 ?_
              have hnd : ¬ isD (g p) := by unfold isD; omega
              rw [pDg_s hnd] at hD
              exact ⟨_, rfl, hF, fun q e => (by rw [← hD] at e; simp at e), fun q v2 e => (by rw [← hD] at e; simp only [Prod.mk.injEq, Option.some.injEq] at e; exact ⟨fun _ => ⟨rfl, by rw [hp3]; omega⟩, fun z => absurd (show q = a by omega) z⟩)⟩
          · refine aw_aload_n hO dX8_number_46 rfl rfl ?_
            refine gC_X8_23_1 hO dX8_number_47 rfl ?_
            refine aw_cg hp3 ?_
            refine aw_iload_n hO dX8_number_50 rfl rfl ?_
            refine aw_isub hO dX8_number_51 rfl ?_
            refine aw_iload_n hO dX8_number_52 rfl rfl ?_
            refine aw_icmp_ne (tgt := 58) hO dX8_number_53 rfl rfl ⟨by omega, by omega⟩ (inRn (by omega)) (fun c53 => ?_) (fun c53 => ?_)
            · have hpp : (10 : Int) ^ (p + 1 - a) = 10 * 10 ^ (p - a) := by rw [show p + 1 - a = (p - a) + 1 by omega, Int.pow_succ, Int.mul_comm]
              refine aw_bipush hO dX8_number_58 rfl (by decide) (by decide) ?_
              refine aw_iload_n hO dX8_number_60 rfl rfl ?_
              refine aw_imul hO dX8_number_61 rfl ?_
              refine aw_aload_n hO dX8_number_62 rfl rfl ?_
              refine gC_X8_9_1 hO dX8_number_63 rfl ?_
              refine aw_aload_n hO dX8_number_66 rfl rfl ?_
              refine gC_X8_23_1 hO dX8_number_67 rfl ?_
              refine aw_cg hp3 ?_
              refine aw_cald (N := 240) (i := p) hO dX8_number_70 rfl (by decide) rfl (by decide) rfl (by omega) ?_
              refine aw_cg (hTm.1.2.2 p (by omega)) ?_
              refine aw_iadd hO dX8_number_71 rfl ?_
              refine aw_bipush hO dX8_number_72 rfl (by decide) (by decide) ?_
              refine aw_isub hO dX8_number_74 rfl ?_
              refine aw_istore_n (ls' := [some (vR 1), some (vI ((k : Nat) : Int)), some (vI ((a : Nat) : Int)), some (vI (((10 * v) + (g p)) - 48))]) hO dX8_number_75 rfl (Nat.le_of_ble_eq_true rfl) rfl rfl ?_
              refine aw_aload_n hO dX8_number_76 rfl rfl ?_
              refine aw_dup hO dX8_number_77 rfl rfl ?_
              refine gC_X8_23_1 hO dX8_number_78 rfl ?_
              refine aw_cg hp3 ?_
              refine aw_iconst hO dX8_number_81 rfl ?_
              refine aw_iadd hO dX8_number_82 rfl ?_
              refine pC_X8_23_1 hO dX8_number_83 rfl ?_
              refine aw_mm (fun μ13 e_μ13 => ?_)
              refine aw_goto (tgt := 7) hO dX8_number_86 rfl ?_
              exact ih (p + 1) _ μ13 (by omega) (by omega) (by omega) (by omega) (by rw [hpp]; omega) (by rw [e_μ13]; exact hF.st ⟨rfl, Or.inl rfl⟩ _) (by rw [e_μ13, mst_eq]; omega) (by rw [pDg_t ⟨c29, c43⟩] at hD; exact hD)
            · exact absurd c53 (by omega)
  exact lp k a 0 μ (by omega) (Nat.le_refl _) haN (by omega) (by rw [Nat.sub_self]; decide) Fr.rf ha rfl
