/-! ## questions (1) -/
theorem leadX_best {ν : Mm} {v : Int} : ∀ n, leadX ν v n = if best (fun o => decide ((o : Int) ≠ v) && mayM ν o) (appealM ν) n = -1 then -1000000 else appealM ν (best (fun o => decide ((o : Int) ≠ v) && mayM ν o) (appealM ν) n).toNat
  | 0 => rfl
  | n + 1 => by
    have ih := leadX_best (ν := ν) (v := v) n
    have hb := best_rng (fun o => decide ((o : Int) ≠ v) && mayM ν o) (appealM ν) n
    have h1 := appealM_R ν n
    rw [leadX]
    by_cases hc : (n : Int) ≠ v ∧ mayM ν n = true
    · have hok : (decide ((n : Int) ≠ v) && mayM ν n) = true := by simp [hc.1, hc.2]
      rw [if_pos hc, ih]
      by_cases hn : best (fun o => decide ((o : Int) ≠ v) && mayM ν o) (appealM ν) n = -1
      · have e : best (fun o => decide ((o : Int) ≠ v) && mayM ν o) (appealM ν) (n + 1) = (n : Int) := by rw [best_succ, if_pos ⟨hok, Or.inl hn⟩]
        rw [if_pos hn, e, if_neg (by omega), Int.toNat_natCast]
        omega
      · rw [if_neg hn]
        by_cases hl : appealM ν (best (fun o => decide ((o : Int) ≠ v) && mayM ν o) (appealM ν) n).toNat < appealM ν n
        · have e : best (fun o => decide ((o : Int) ≠ v) && mayM ν o) (appealM ν) (n + 1) = (n : Int) := by rw [best_succ, if_pos ⟨hok, Or.inr hl⟩]
          rw [e, if_neg (by omega), Int.toNat_natCast]
          omega
        · have e : best (fun o => decide ((o : Int) ≠ v) && mayM ν o) (appealM ν) (n + 1) = best (fun o => decide ((o : Int) ≠ v) && mayM ν o) (appealM ν) n := by rw [best_succ, if_neg (fun q => q.2.elim hn hl)]
          rw [e, if_neg hn]
          omega
    · have e : best (fun o => decide ((o : Int) ≠ v) && mayM ν o) (appealM ν) (n + 1) = best (fun o => decide ((o : Int) ≠ v) && mayM ν o) (appealM ν) n := by rw [best_succ, if_neg (fun q => hc (by simpa using q.1))]
      rw [if_neg hc, e, ih]
theorem hasB_oth {ν : Mm} (h : MB ν) {p o : Nat} (hp : p < 6) (ho : o < 32) : hasB (bAnd (canT ν) (bXor (bShl 1 (p : Int)) (-1))) o = (decide ((o : Int) < ν.1 0 25) && (decide ((o : Int) ≠ (p : Int)) && mayM ν o)) := by
  rw [hasB_and ho, hasB_canT h ho, hasB_not ho, hasB_shl ho (by omega)]
  by_cases e : o = p
  · subst e; simp
  · simp [e, show ¬ ((o : Int) = (p : Int)) by omega]
theorem dX6_leadOf_0 : decode cX6_leadOf 0 = .ok (.aload_n 0, 1) := by decide +kernel
theorem dX6_leadOf_1 : decode cX6_leadOf 1 = .ok (.getfield 33, 3) := by decide +kernel
theorem dX6_leadOf_4 : decode cX6_leadOf 4 = .ok (.aload_n 1, 1) := by decide +kernel
theorem dX6_leadOf_5 : decode cX6_leadOf 5 = .ok (.invokevirtual 37, 3) := by decide +kernel
theorem dX6_leadOf_8 : decode cX6_leadOf 8 = .ok (.iconst 1, 1) := by decide +kernel
theorem dX6_leadOf_9 : decode cX6_leadOf 9 = .ok (.iload_n 2, 1) := by decide +kernel
theorem dX6_leadOf_10 : decode cX6_leadOf 10 = .ok (.ishl, 1) := by decide +kernel
theorem dX6_leadOf_11 : decode cX6_leadOf 11 = .ok (.iconst (-1), 1) := by decide +kernel
theorem dX6_leadOf_12 : decode cX6_leadOf 12 = .ok (.ixor, 1) := by decide +kernel
theorem dX6_leadOf_13 : decode cX6_leadOf 13 = .ok (.iand, 1) := by decide +kernel
theorem dX6_leadOf_14 : decode cX6_leadOf 14 = .ok (.istore_n 3, 1) := by decide +kernel
theorem dX6_leadOf_15 : decode cX6_leadOf 15 = .ok (.aload_n 0, 1) := by decide +kernel
theorem dX6_leadOf_16 : decode cX6_leadOf 16 = .ok (.getfield 33, 3) := by decide +kernel
theorem dX6_leadOf_19 : decode cX6_leadOf 19 = .ok (.aload_n 1, 1) := by decide +kernel
theorem dX6_leadOf_20 : decode cX6_leadOf 20 = .ok (.iload_n 3, 1) := by decide +kernel
theorem dX6_leadOf_21 : decode cX6_leadOf 21 = .ok (.invokevirtual 43, 3) := by decide +kernel
theorem dX6_leadOf_24 : decode cX6_leadOf 24 = .ok (.aload_n 0, 1) := by decide +kernel
theorem dX6_leadOf_25 : decode cX6_leadOf 25 = .ok (.getfield 33, 3) := by decide +kernel
theorem dX6_leadOf_28 : decode cX6_leadOf 28 = .ok (.iload_n 3, 1) := by decide +kernel
theorem dX6_leadOf_29 : decode cX6_leadOf 29 = .ok (.invokevirtual 47, 3) := by decide +kernel
theorem dX6_leadOf_32 : decode cX6_leadOf 32 = .ok (.istore 4, 2) := by decide +kernel
theorem dX6_leadOf_34 : decode cX6_leadOf 34 = .ok (.iload 4, 2) := by decide +kernel
theorem dX6_leadOf_36 : decode cX6_leadOf 36 = .ok (.iconst (-1), 1) := by decide +kernel
theorem dX6_leadOf_37 : decode cX6_leadOf 37 = .ok (.if_icmp .ne 8, 3) := by decide +kernel
theorem dX6_leadOf_40 : decode cX6_leadOf 40 = .ok (.bipush 99, 2) := by decide +kernel
theorem dX6_leadOf_42 : decode cX6_leadOf 42 = .ok (.goto 23, 3) := by decide +kernel
theorem dX6_leadOf_45 : decode cX6_leadOf 45 = .ok (.aload_n 0, 1) := by decide +kernel
theorem dX6_leadOf_46 : decode cX6_leadOf 46 = .ok (.getfield 33, 3) := by decide +kernel
theorem dX6_leadOf_49 : decode cX6_leadOf 49 = .ok (.aload_n 1, 1) := by decide +kernel
theorem dX6_leadOf_50 : decode cX6_leadOf 50 = .ok (.iload_n 2, 1) := by decide +kernel
theorem dX6_leadOf_51 : decode cX6_leadOf 51 = .ok (.invokevirtual 51, 3) := by decide +kernel
theorem dX6_leadOf_54 : decode cX6_leadOf 54 = .ok (.aload_n 0, 1) := by decide +kernel
theorem dX6_leadOf_55 : decode cX6_leadOf 55 = .ok (.getfield 33, 3) := by decide +kernel
theorem dX6_leadOf_58 : decode cX6_leadOf 58 = .ok (.getfield 55, 3) := by decide +kernel
theorem dX6_leadOf_61 : decode cX6_leadOf 61 = .ok (.iload 4, 2) := by decide +kernel
theorem dX6_leadOf_63 : decode cX6_leadOf 63 = .ok (.iaload, 1) := by decide +kernel
theorem dX6_leadOf_64 : decode cX6_leadOf 64 = .ok (.isub, 1) := by decide +kernel
theorem dX6_leadOf_65 : decode cX6_leadOf 65 = .ok (.ireturn, 1) := by decide +kernel
set_option maxRecDepth 100000 in
theorem gC_X6_33_77 {Q : Option AV → Mm → Prop} {K : KT} {cc : ByteArray} {nL d : Nat} {ret : Option FieldType} {pc n : Nat} {ls : List (Option AV)} {st : List AV} {μ : Mm} (hO : KOk PC Q K cc RX6 nL d ret) (hd : decode cc pc = .ok (.getfield 33, 3)) (hn : pc + 3 = n) (kk : AW K n ls (vR 73 :: st) μ) : AW K pc ls (vR 77 :: st) μ := aw_get (f := 1) hO hd hn okX6 (by decide) (lw_t1 236 rfl rfl) (by decide) rfl rfl rfl kk
set_option maxRecDepth 100000 in
theorem gC_X6_55_73 {Q : Option AV → Mm → Prop} {K : KT} {cc : ByteArray} {nL d : Nat} {ret : Option FieldType} {pc n : Nat} {ls : List (Option AV)} {st : List AV} {μ : Mm} (hO : KOk PC Q K cc RX6 nL d ret) (hd : decode cc pc = .ok (.getfield 55, 3)) (hn : pc + 3 = n) (kk : AW K n ls (vR 75 :: st) μ) : AW K pc ls (vR 73 :: st) μ := aw_getN (f := 2) hO hd hn okX3 (by decide) (lw_t1n 197 rfl rfl) (by decide) rfl rfl rfl kk
set_option maxHeartbeats 4000000 in
set_option maxRecDepth 100000 in
theorem cJ_leadOf {μ ν : Mm} {s : Nat} (h : JR μ s ν) {p : Nat} (hp : (p : Int) < ν.1 0 25) : CtE PC 4 yX6_leadOf cX6_leadOf 5 (some .int) [vR 77, vR s, vI ((p : Nat) : Int)] μ (fun r m => r = (if leadX ν (p : Int) (ν.1 0 25).toNat = -1000000 then 99 else appealM ν p - leadX ν (p : Int) (ν.1 0 25).toNat) ∧ Fr jS μ m) := by
  refine ct_intro [some (vR 77), some (vR s), some (vI ((p : Nat) : Int)), none, none] RX6 (by decide) rfl XCo rfl (Nat.le_of_ble_eq_true rfl) (fun K hO => ?_)
  have hs := h.ob
  have hnp := h.B.np
  have hnt := h.B.nt
  have hoth := fun o (ho : o < 32) => hasB_oth h.B (p := p) (o := o) (by omega) ho
  refine aw_aload_n hO dX6_leadOf_0 rfl rfl ?_
  refine gC_X6_33_77 hO dX6_leadOf_1 rfl ?_
  refine aw_aload_n hO dX6_leadOf_4 rfl rfl ?_
  refine aw_callVI (as := [vR s]) (st := []) hO dX6_leadOf_5 rfl (lw_t4 163 rfl rfl) kX3_candidates (T := TX3) rfl (by decide) rfl (cJ_candidates h) (by decide) rfl rfl rfl (Nat.le_of_ble_eq_true rfl) ?_
  refine aw_iconst hO dX6_leadOf_8 rfl ?_
  refine aw_iload_n hO dX6_leadOf_9 rfl rfl ?_
  refine aw_ishl hO dX6_leadOf_10 rfl ?_
  refine aw_iconst hO dX6_leadOf_11 rfl ?_
  refine aw_ixor hO dX6_leadOf_12 rfl ?_
  refine aw_iand hO dX6_leadOf_13 rfl ?_
  refine aw_istore_n (ls' := [some (vR 77), some (vR s), some (vI ((p : Nat) : Int)), some (vI (bAnd (canT ν) (bXor (bShl 1 ((p : Nat) : Int)) (-1)))), none]) hO dX6_leadOf_14 rfl (Nat.le_of_ble_eq_true rfl) rfl rfl ?_
  refine aw_aload_n hO dX6_leadOf_15 rfl rfl ?_
  refine gC_X6_33_77 hO dX6_leadOf_16 rfl ?_
  refine aw_aload_n hO dX6_leadOf_19 rfl rfl ?_
  refine aw_iload_n hO dX6_leadOf_20 rfl rfl ?_
  refine aw_callVV (as := [vR s, vI (bAnd (canT ν) (bXor (bShl 1 ((p : Nat) : Int)) (-1)))]) (st := []) hO dX6_leadOf_21 rfl (lw_t4 164 rfl rfl) kX3_weigh (T := TX3) rfl (by decide) rfl (cJ_weigh h (b := (bAnd (canT ν) (bXor (bShl 1 ((p : Nat) : Int)) (-1))))) (by decide) rfl rfl rfl (Nat.le_of_ble_eq_true rfl) (fun μ2 hq3 => ?_)
  have hF_μ2 := hq3.1
  have hA_μ2 := hq3.2
  have hJ_μ2 := h.fj hF_μ2
  have hlt : ∀ o, o < 6 → hasB (bAnd (canT ν) (bXor (bShl 1 ((p : Nat) : Int)) (-1))) o = true → o < (ν.1 0 25).toNat := fun o ho h1 => by rw [hoth o (by omega)] at h1; simp only [Bool.and_eq_true, decide_eq_true_eq] at h1; omega
  have hbb : best (fun o => hasB (bAnd (canT ν) (bXor (bShl 1 ((p : Nat) : Int)) (-1))) o) (μ2.1 75) 6 = best (fun o => decide ((o : Int) ≠ (p : Int)) && mayM ν o) (appealM ν) (ν.1 0 25).toNat := by
    rw [best_cut' (n := (ν.1 0 25).toNat) (m := 6) (by omega) (fun o h1 h2 => by rw [hoth o (by omega)]; simp [show ¬ (o : Int) < ν.1 0 25 by omega])]
    refine best_val _ (fun o ho => by rw [hoth o (by omega)]; simp [show (o : Int) < ν.1 0 25 by omega]) (fun o ho h1 => by rw [hA_μ2 o, if_pos ⟨ho, h1⟩])
  refine aw_aload_n hO dX6_leadOf_24 rfl rfl ?_
  refine gC_X6_33_77 hO dX6_leadOf_25 rfl ?_
  refine aw_iload_n hO dX6_leadOf_28 rfl rfl ?_
  refine aw_callVI (as := [vI (bAnd (canT ν) (bXor (bShl 1 ((p : Nat) : Int)) (-1)))]) (st := []) hO dX6_leadOf_29 rfl (lw_t4 165 rfl rfl) kX3_mostAppealing (T := TX3) rfl (by decide) rfl (cJ_mostAppealing μ2 (b := (bAnd (canT ν) (bXor (bShl 1 ((p : Nat) : Int)) (-1)))) (R75 hA_μ2 hlt)) (by decide) rfl rfl rfl (Nat.le_of_ble_eq_true rfl) ?_
  refine aw_cg hbb ?_
  refine aw_nm (fun r e_r => ?_)
  have hrr := best_rng (fun o => decide ((o : Int) ≠ (p : Int)) && mayM ν o) (appealM ν) (ν.1 0 25).toNat
  rw [← e_r] at hrr
  refine aw_istore (ls' := [some (vR 77), some (vR s), some (vI ((p : Nat) : Int)), some (vI (bAnd (canT ν) (bXor (bShl 1 ((p : Nat) : Int)) (-1)))), some (vI r)]) hO dX6_leadOf_32 rfl (Nat.le_of_ble_eq_true rfl) rfl rfl ?_
  refine aw_iload hO dX6_leadOf_34 rfl rfl ?_
  refine aw_iconst hO dX6_leadOf_36 rfl ?_
  refine aw_icmp_ne (tgt := 45) hO dX6_leadOf_37 rfl rfl ⟨by omega, by omega⟩ (inRlit _) (fun c37 => ?_) (fun c37 => ?_)
  · refine aw_aload_n hO dX6_leadOf_45 rfl rfl ?_
    refine gC_X6_33_77 hO dX6_leadOf_46 rfl ?_
    refine aw_aload_n hO dX6_leadOf_49 rfl rfl ?_
    refine aw_iload_n hO dX6_leadOf_50 rfl rfl ?_
    refine aw_callVE (as := [vR s, vI ((p : Nat) : Int)]) (st := []) hO dX6_leadOf_51 rfl (lw_t4 166 rfl rfl) kX3_appealOf (T := TX3) rfl (by decide) rfl (cJ_appealOf hJ_μ2 (p := p) (by omega)) (by decide) rfl rfl rfl (Nat.le_of_ble_eq_true rfl) (fun v4 μ5 hq6 => ?_)
    obtain ⟨e_v4, hF_μ5⟩ := hq6
    have hJ_μ5 := hJ_μ2.fa hF_μ5
    refine aw_aload_n hO dX6_leadOf_54 rfl rfl ?_
    refine gC_X6_33_77 hO dX6_leadOf_55 rfl ?_
    refine gC_X6_55_73 hO dX6_leadOf_58 rfl ?_
    refine aw_iload hO dX6_leadOf_61 rfl rfl ?_
    refine aw_ialdn (N := 6) (i := r.toNat) hO dX6_leadOf_63 rfl (by decide) rfl (by decide) (Int.toNat_of_nonneg (by omega)).symm (by omega) ?_
    refine aw_isub hO dX6_leadOf_64 rfl ?_
    refine aw_iret hO dX6_leadOf_65 ?_
    have hrok := best_ok (ok := fun o => decide ((o : Int) ≠ (p : Int)) && mayM ν o) (val := appealM ν) (ν.1 0 25).toNat
    rw [← e_r] at hrok
    have hro := hrok.resolve_left c37
    exact ⟨_, rfl, by rw [leadX_best, ← e_r, if_neg c37, if_neg (by have := appealM_R ν r.toNat; omega), hF_μ5.1 75 _ (by unfold jA; omega), hA_μ2 r.toNat, if_pos ⟨by omega, by rw [hoth _ (by omega)]; simp only [hro, Bool.and_true, decide_eq_true_eq]; omega⟩, e_v4], hF_μ2.tr (hF_μ5.mono (fun _ _ e => jA_S e))⟩
  · refine aw_bipush hO dX6_leadOf_40 rfl (by decide) (by decide) ?_
    refine aw_goto (tgt := 65) hO dX6_leadOf_42 rfl ?_
    refine aw_iret hO dX6_leadOf_65 ?_
    exact ⟨_, rfl, by rw [leadX_best, ← e_r, if_pos c37, if_pos rfl], hF_μ2⟩
theorem dX6_favourite_0 : decode cX6_favourite 0 = .ok (.aload_n 0, 1) := by decide +kernel
theorem dX6_favourite_1 : decode cX6_favourite 1 = .ok (.getfield 33, 3) := by decide +kernel
theorem dX6_favourite_4 : decode cX6_favourite 4 = .ok (.aload_n 1, 1) := by decide +kernel
theorem dX6_favourite_5 : decode cX6_favourite 5 = .ok (.aload_n 0, 1) := by decide +kernel
theorem dX6_favourite_6 : decode cX6_favourite 6 = .ok (.getfield 29, 3) := by decide +kernel
theorem dX6_favourite_9 : decode cX6_favourite 9 = .ok (.invokevirtual 156, 3) := by decide +kernel
theorem dX6_favourite_12 : decode cX6_favourite 12 = .ok (.invokevirtual 43, 3) := by decide +kernel
theorem dX6_favourite_15 : decode cX6_favourite 15 = .ok (.aload_n 0, 1) := by decide +kernel
theorem dX6_favourite_16 : decode cX6_favourite 16 = .ok (.getfield 33, 3) := by decide +kernel
theorem dX6_favourite_19 : decode cX6_favourite 19 = .ok (.aload_n 0, 1) := by decide +kernel
theorem dX6_favourite_20 : decode cX6_favourite 20 = .ok (.getfield 29, 3) := by decide +kernel
theorem dX6_favourite_23 : decode cX6_favourite 23 = .ok (.invokevirtual 156, 3) := by decide +kernel
theorem dX6_favourite_26 : decode cX6_favourite 26 = .ok (.invokevirtual 47, 3) := by decide +kernel
theorem dX6_favourite_29 : decode cX6_favourite 29 = .ok (.ireturn, 1) := by decide +kernel
set_option maxRecDepth 100000 in
theorem gC_X6_29_77 {Q : Option AV → Mm → Prop} {K : KT} {cc : ByteArray} {nL d : Nat} {ret : Option FieldType} {pc n : Nat} {ls : List (Option AV)} {st : List AV} {μ : Mm} (hO : KOk PC Q K cc RX6 nL d ret) (hd : decode cc pc = .ok (.getfield 29, 3)) (hn : pc + 3 = n) (kk : AW K n ls (vR 25 :: st) μ) : AW K pc ls (vR 77 :: st) μ := aw_get (f := 0) hO hd hn okX6 (by decide) (lw_t1 235 rfl rfl) (by decide) rfl rfl rfl kk
set_option maxHeartbeats 4000000 in
set_option maxRecDepth 100000 in
theorem cJ_favourite {μ ν : Mm} {s : Nat} (h : JR μ s ν)  : CtE PC 4 yX6_favourite cX6_favourite 2 (some .int) [vR 77, vR s] μ (fun r m => r = best allT (appealM ν) (ν.1 0 25).toNat ∧ Fr jS μ m) := by
  refine ct_intro [some (vR 77), some (vR s)] RX6 (by decide) rfl XCo rfl (Nat.le_of_ble_eq_true rfl) (fun K hO => ?_)
  have hs := h.ob
  have hnp := h.B.np
  have hnt := h.B.nt
  refine aw_aload_n hO dX6_favourite_0 rfl rfl ?_
  refine gC_X6_33_77 hO dX6_favourite_1 rfl ?_
  refine aw_aload_n hO dX6_favourite_4 rfl rfl ?_
  refine aw_aload_n hO dX6_favourite_5 rfl rfl ?_
  refine gC_X6_29_77 hO dX6_favourite_6 rfl ?_
  refine aw_callVI (as := []) (st := [vR s, vR 73]) hO dX6_favourite_9 rfl (lw_t5 97 rfl rfl) kX9_allPersons (T := TX9) rfl (by decide) rfl (cJ_allPersons h.z) (by decide) rfl rfl rfl (Nat.le_of_ble_eq_true rfl) ?_
  refine aw_callVV (as := [vR s, vI (bShl 1 (ν.1 0 25) - 1)]) (st := []) hO dX6_favourite_12 rfl (lw_t4 164 rfl rfl) kX3_weigh (T := TX3) rfl (by decide) rfl (cJ_weigh h (b := (bShl 1 (ν.1 0 25) - 1))) (by decide) rfl rfl rfl (Nat.le_of_ble_eq_true rfl) (fun μ2 hq3 => ?_)
  have hF_μ2 := hq3.1
  have hA_μ2 := hq3.2
  have hJ_μ2 := h.fj hF_μ2
  have hlt : ∀ o, o < 6 → hasB (bShl 1 (ν.1 0 25) - 1) o = true → o < (ν.1 0 25).toNat := fun o ho h1 => by rw [hasB_all hnp.1 hnp.2 (by omega)] at h1; simp only [decide_eq_true_eq] at h1; omega
  refine aw_aload_n hO dX6_favourite_15 rfl rfl ?_
  refine gC_X6_33_77 hO dX6_favourite_16 rfl ?_
  refine aw_aload_n hO dX6_favourite_19 rfl rfl ?_
  refine gC_X6_29_77 hO dX6_favourite_20 rfl ?_
  refine aw_callVI (as := []) (st := [vR 73]) hO dX6_favourite_23 rfl (lw_t5 97 rfl rfl) kX9_allPersons (T := TX9) rfl (by decide) rfl (cJ_allPersons hJ_μ2.z) (by decide) rfl rfl rfl (Nat.le_of_ble_eq_true rfl) ?_
  refine aw_callVI (as := [vI (bShl 1 (ν.1 0 25) - 1)]) (st := []) hO dX6_favourite_26 rfl (lw_t4 165 rfl rfl) kX3_mostAppealing (T := TX3) rfl (by decide) rfl (cJ_mostAppealing μ2 (b := (bShl 1 (ν.1 0 25) - 1)) (R75 hA_μ2 hlt)) (by decide) rfl rfl rfl (Nat.le_of_ble_eq_true rfl) ?_
  refine aw_iret hO dX6_favourite_29 ?_
  exact ⟨_, rfl, by
    rw [best_cut' (n := (ν.1 0 25).toNat) (m := 6) (by omega) (fun o h1 h2 => by rw [hasB_all hnp.1 hnp.2 (by omega)]; simp [show ¬ (o : Int) < ν.1 0 25 by omega]), ← best_all h.B]
    exact best_val _ (fun o ho => rfl) (fun o ho h1 => by rw [hA_μ2 o, if_pos ⟨ho, h1⟩]), hF_μ2⟩
theorem dX6_chained_0 : decode cX6_chained 0 = .ok (.iconst 0, 1) := by decide +kernel
theorem dX6_chained_1 : decode cX6_chained 1 = .ok (.istore_n 2, 1) := by decide +kernel
theorem dX6_chained_2 : decode cX6_chained 2 = .ok (.iconst 1, 1) := by decide +kernel
theorem dX6_chained_3 : decode cX6_chained 3 = .ok (.istore_n 3, 1) := by decide +kernel
theorem dX6_chained_4 : decode cX6_chained 4 = .ok (.iload_n 3, 1) := by decide +kernel
theorem dX6_chained_5 : decode cX6_chained 5 = .ok (.aload_n 0, 1) := by decide +kernel
theorem dX6_chained_6 : decode cX6_chained 6 = .ok (.getfield 29, 3) := by decide +kernel
theorem dX6_chained_9 : decode cX6_chained 9 = .ok (.getfield 94, 3) := by decide +kernel
theorem dX6_chained_12 : decode cX6_chained 12 = .ok (.if_icmp .ge 24, 3) := by decide +kernel
theorem dX6_chained_15 : decode cX6_chained 15 = .ok (.aload_n 1, 1) := by decide +kernel
theorem dX6_chained_16 : decode cX6_chained 16 = .ok (.iload_n 3, 1) := by decide +kernel
theorem dX6_chained_17 : decode cX6_chained 17 = .ok (.invokevirtual 147, 3) := by decide +kernel
theorem dX6_chained_20 : decode cX6_chained 20 = .ok (.aload_n 1, 1) := by decide +kernel
theorem dX6_chained_21 : decode cX6_chained 21 = .ok (.iload_n 2, 1) := by decide +kernel
theorem dX6_chained_22 : decode cX6_chained 22 = .ok (.invokevirtual 147, 3) := by decide +kernel
theorem dX6_chained_25 : decode cX6_chained 25 = .ok (.if_icmp .le 5, 3) := by decide +kernel
theorem dX6_chained_28 : decode cX6_chained 28 = .ok (.iload_n 3, 1) := by decide +kernel
theorem dX6_chained_29 : decode cX6_chained 29 = .ok (.istore_n 2, 1) := by decide +kernel
theorem dX6_chained_30 : decode cX6_chained 30 = .ok (.iinc 3 1, 3) := by decide +kernel
theorem dX6_chained_33 : decode cX6_chained 33 = .ok (.goto (-29), 3) := by decide +kernel
theorem dX6_chained_36 : decode cX6_chained 36 = .ok (.iload_n 2, 1) := by decide +kernel
theorem dX6_chained_37 : decode cX6_chained 37 = .ok (.ireturn, 1) := by decide +kernel
set_option maxRecDepth 100000 in
theorem gC_X6_94_25 {Q : Option AV → Mm → Prop} {K : KT} {cc : ByteArray} {nL d : Nat} {ret : Option FieldType} {pc n : Nat} {ls : List (Option AV)} {st : List AV} {μ : Mm} (hO : KOk PC Q K cc RX6 nL d ret) (hd : decode cc pc = .ok (.getfield 94, 3)) (hn : pc + 3 = n) (kk : AW K n ls (vI (μ.1 25 1) :: st) μ) : AW K pc ls (vR 25 :: st) μ := aw_getN (f := 1) hO hd hn okX9 (by decide) (lw_t1n 82 rfl rfl) (by decide) rfl rfl rfl kk
set_option maxHeartbeats 4000000 in
set_option maxRecDepth 100000 in
theorem cJ_chained {μ ν : Mm} {s : Nat} (h : JR μ s ν) (h1 : ν.1 0 25 ≠ 0) : CtI PC 1 yX6_chained cX6_chained 4 (some .int) [vR 77, vR s] μ (best allT (fun q => ν.1 17 (18 + q)) (ν.1 0 25).toNat) := by
  refine ct_intro [some (vR 77), some (vR s), none, none] RX6 (by decide) rfl XCo rfl (Nat.le_of_ble_eq_true rfl) (fun K hO => ?_)
  have hs := h.ob
  have hnp := h.B.np
  have hnt := h.B.nt
  have lp : ∀ (c : Nat) (i x : Nat), ((i : Int) + c = ν.1 0 25) → (1 ≤ i) → (((x : Nat) : Int) = best allT (fun q => ν.1 17 (18 + q)) i) → AW K 4 [some (vR 77), some (vR s), some (vI ((x : Nat) : Int)), some (vI ((i : Nat) : Int))] [] μ := by
    intro c
    induction c with
    | zero =>
      intro i x hi hi1 hx
      refine aw_iload_n hO dX6_chained_4 rfl rfl ?_
      refine aw_aload_n hO dX6_chained_5 rfl rfl ?_
      refine gC_X6_29_77 hO dX6_chained_6 rfl ?_
      refine gC_X6_94_25 hO dX6_chained_9 rfl ?_
      refine aw_cg h.z.T.n ?_
      refine aw_icmp_ge (tgt := 36) hO dX6_chained_12 rfl rfl (inRn (by omega)) ⟨by omega, by omega⟩ (fun c12 => ?_) (fun c12 => ?_)
      · refine aw_iload_n hO dX6_chained_36 rfl rfl ?_
        refine aw_iret hO dX6_chained_37 ?_
        exact rI (by rw [hx, show i = (ν.1 0 25).toNat by omega])
      · exact absurd c12 (by omega)
    | succ c ih =>
      intro i x hi hi1 hx
      have hbr := best_rng allT (fun q => ν.1 17 (18 + q)) i
      have q1 := h.B.now.cha (j := 18 + i) (by omega) (by omega)
      have q2 := h.B.now.cha (j := 18 + x) (by omega) (by omega)
      refine aw_iload_n hO dX6_chained_4 rfl rfl ?_
      refine aw_aload_n hO dX6_chained_5 rfl rfl ?_
      refine gC_X6_29_77 hO dX6_chained_6 rfl ?_
      refine gC_X6_94_25 hO dX6_chained_9 rfl ?_
      refine aw_cg h.z.T.n ?_
      refine aw_icmp_ge (tgt := 36) hO dX6_chained_12 rfl rfl (inRn (by omega)) ⟨by omega, by omega⟩ (fun c12 => ?_) (fun c12 => ?_)
      · exact absurd c12 (by omega)
      · refine aw_aload_n hO dX6_chained_15 rfl rfl ?_
        refine aw_iload_n hO dX6_chained_16 rfl rfl ?_
        refine aw_callVI (as := [vI ((i : Nat) : Int)]) (st := []) hO dX6_chained_17 rfl (lw_t5 81 rfl rfl) kX7_chains (T := TX7) rfl hs.1 hs.2.1 (cJ_chains h.ob h.S (p := i) (by omega)) (by decide) rfl rfl rfl (Nat.le_of_ble_eq_true rfl) ?_
        refine aw_aload_n hO dX6_chained_20 rfl rfl ?_
        refine aw_iload_n hO dX6_chained_21 rfl rfl ?_
        refine aw_callVI (as := [vI ((x : Nat) : Int)]) (st := [vI (ν.1 17 (18 + i))]) hO dX6_chained_22 rfl (lw_t5 81 rfl rfl) kX7_chains (T := TX7) rfl hs.1 hs.2.1 (cJ_chains h.ob h.S (p := x) (by omega)) (by decide) rfl rfl rfl (Nat.le_of_ble_eq_true rfl) ?_
        refine aw_icmp_le (tgt := 30) hO dX6_chained_25 rfl rfl ⟨by omega, by omega⟩ ⟨by omega, by omega⟩ (fun c25 => ?_) (fun c25 => ?_)
        · refine aw_iinc (ls' := [some (vR 77), some (vR s), some (vI ((x : Nat) : Int)), some (vI (((i : Nat) : Int) + 1))]) hO dX6_chained_30 rfl rfl rfl rfl ?_
          refine aw_lsq (ls' := [some (vR 77), some (vR s), some (vI ((x : Nat) : Int)), some (vI (((i + 1) : Nat) : Int))]) rfl ?_
          refine aw_goto (tgt := 4) hO dX6_chained_33 rfl ?_
          refine aw_lsq (ls' := [some (vR 77), some (vR s), some (vI ((x : Nat) : Int)), some (vI (((i + 1) : Nat) : Int))]) rfl ?_
          exact ih (i + 1) x (by omega) (by omega) (by rw [best_succ, if_neg (fun q => q.2.elim (fun q => by omega) (fun q => by rw [← hx, Int.toNat_natCast] at q; omega))]; exact hx)
        · refine aw_iload_n hO dX6_chained_28 rfl rfl ?_
          refine aw_istore_n (ls' := [some (vR 77), some (vR s), some (vI ((i : Nat) : Int)), some (vI ((i : Nat) : Int))]) hO dX6_chained_29 rfl (Nat.le_of_ble_eq_true rfl) rfl rfl ?_
          refine aw_iinc (ls' := [some (vR 77), some (vR s), some (vI ((i : Nat) : Int)), some (vI (((i : Nat) : Int) + 1))]) hO dX6_chained_30 rfl rfl rfl rfl ?_
          refine aw_lsq (ls' := [some (vR 77), some (vR s), some (vI ((i : Nat) : Int)), some (vI (((i + 1) : Nat) : Int))]) rfl ?_
          refine aw_goto (tgt := 4) hO dX6_chained_33 rfl ?_
          refine aw_lsq (ls' := [some (vR 77), some (vR s), some (vI ((i : Nat) : Int)), some (vI (((i + 1) : Nat) : Int))]) rfl ?_
          exact ih (i + 1) i (by omega) (by omega) (by rw [best_succ, if_pos ⟨rfl, Or.inr (by rw [← hx, Int.toNat_natCast]; exact c25)⟩])
  refine aw_iconst hO dX6_chained_0 rfl ?_
  refine aw_istore_n (ls' := [some (vR 77), some (vR s), some (vI 0), none]) hO dX6_chained_1 rfl (Nat.le_of_ble_eq_true rfl) rfl rfl ?_
  refine aw_iconst hO dX6_chained_2 rfl ?_
  refine aw_istore_n (ls' := [some (vR 77), some (vR s), some (vI 0), some (vI 1)]) hO dX6_chained_3 rfl (Nat.le_of_ble_eq_true rfl) rfl rfl ?_
  refine aw_lsq (ls' := [some (vR 77), some (vR s), some (vI ((0 : Nat) : Int)), some (vI ((1 : Nat) : Int))]) rfl ?_
  exact lp ((ν.1 0 25).toNat - 1) 1 0 (by omega) (by omega) rfl
theorem lv_cha {ν : Mm} (h : MB ν) {v : Nat} (hv : v < 6) : liveF ν (18 + v) = if chM ν = (v : Int) then min 99 (ν.1 17 (18 + v) + 1) else ν.1 17 (18 + v) := by
  have ht := h.nt
  unfold liveF endF
  rw [if_neg (by omega), if_neg (by omega), if_neg (by omega), if_neg (by omega), trbF_ne (by omega) _ (by omega)]
  unfold crownF
  by_cases e : chM ν = (v : Int)
  · rw [if_neg (by omega), if_pos e, fu_ne (by split <;> omega), e, Int.toNat_natCast, fu_eq]
  · rw [if_neg e]
    split
    · rfl
    · rename_i h1
      have hp := pickM_rng ν (ν.1 0 25).toNat
      rw [fu_ne (by split <;> omega), fu_ne (by unfold chM at h1 e ⊢; omega)]
theorem lv_met {ν : Mm} {p : Nat} (hp : p < 18) : liveF ν p = 0 := by unfold liveF endF; rw [if_pos hp]
theorem lv_away {ν : Mm} (h : MB ν) : liveF ν 31 = ν.1 17 31 := by
  have ht := h.nt
  have hp := pickM_rng ν (ν.1 0 25).toNat
  have hn := h.np
  unfold liveF endF
  rw [if_neg (by decide), if_neg (by decide), if_neg (by decide), if_neg (by decide), trbF_ne (by decide) _ (by omega), crownF_ne (by unfold chM; omega) (by decide) (by decide) (by decide)]
/-- nobody was met: the rest choose -/
theorem ch_rest {ν : Mm} {F : Nat → Int} (h : MB ν) (h0 : ∀ p, p < 6 → F p = 0) (ha : F 31 = ν.1 17 31) : chM (wN ν F) = restM ν (ν.1 0 25).toNat := by
  have hn := h.np
  unfold chM
  rw [show (wN ν F).1 0 25 = ν.1 0 25 from rfl]
  unfold pickM
  have e1 : himM (wN ν F) (ν.1 0 25).toNat = -1 := best_none.mpr (fun p hp => by
    unfold mayM
    rw [wN_17, h0 p (by omega)]
    simp)
  rw [if_pos e1]
  unfold restM
  rw [wN_17, ha]
  rfl
theorem lvK_okC {ν : Mm} (h : MG ν) : ∀ k : Nat, ν.1 17 36 + k ≤ 1100 → NowOK (lvK ν k) ∧ (1 ≤ k → (∀ p, p < 6 → lvK ν k p = 0)) ∧ lvK ν k 31 = ν.1 17 31 ∧ lvK ν k 36 = ν.1 17 36 + k
  | 0, _ => ⟨h.1.now, fun e => by omega, rfl, by rw [lvK]; omega⟩
  | k + 1, hy => by
    obtain ⟨h1, h2, h3, h4⟩ := lvK_okC h k (by omega)
    have hB := (MG_N h h1).1
    have h17 : (wN ν (lvK ν k)).1 17 = lvK ν k := wN_17
    refine ⟨live_ok hB (by rw [h17]; omega), fun _ p hp => lv_met (by omega), ?_, ?_⟩
    · rw [lvK, lv_away hB, h17, h3]
    · rw [lvK, live36 hB, h17, h4]; omega
theorem fsM_eq {ν : Mm} (h : MG ν) (hy : ν.1 17 36 ≤ 999) {v : Nat} (hv : v < 6) : ∀ k : Nat, k ≤ 60 → (fsM ν v k = if 99 ≤ ν.1 17 (18 + v) then -1 else if k = 0 then -1 else if pickM ν (ν.1 0 25).toNat = (v : Int) then 1 else if k = 1 then -1 else if restM ν (ν.1 0 25).toNat = (v : Int) then 2 else -1) ∧ (fsM ν v k = -1 → lvK ν k (18 + v) = ν.1 17 (18 + v))
  | 0, _ => ⟨by rw [fsM]; simp, fun _ => rfl⟩
  | k + 1, hk => by
    obtain ⟨e1, e2⟩ := fsM_eq h hy hv k (by omega)
    obtain ⟨g1, g2, g3, g4⟩ := lvK_okC h k (by omega)
    have hB := (MG_N h g1).1
    have hc := h.1.now.cha (j := 18 + v) (by omega) (by omega)
    have hs : lvK ν (k + 1) (18 + v) = if chM (wN ν (lvK ν k)) = (v : Int) then min 99 (lvK ν k (18 + v) + 1) else lvK ν k (18 + v) := by
      rw [lvK, lv_cha hB hv, wN_17]
    have hch : chM (wN ν (lvK ν k)) = if k = 0 then pickM ν (ν.1 0 25).toNat else restM ν (ν.1 0 25).toNat := by
      by_cases z : k = 0
      · subst z; rw [if_pos rfl, lvK, wN_self]; rfl
      · rw [if_neg z]; exact ch_rest h.1 (g2 (by omega)) g3
    rw [hch] at hs
    rw [fsM]
    by_cases hf : fsM ν v k = -1
    · rw [if_neg (by omega), hs, e2 hf]
      rw [hf] at e1
      by_cases c99 : 99 ≤ ν.1 17 (18 + v)
      · rw [if_pos c99]
        by_cases z : k = 0
        · rw [if_pos z]; split <;> (refine ⟨by split <;> omega, fun _ => by omega⟩)
        · rw [if_neg z]; split <;> (refine ⟨by split <;> omega, fun _ => by omega⟩)
      · rw [if_neg c99] at e1 ⊢
        by_cases z : k = 0
        · subst z
          simp only [if_true, Nat.zero_add, Nat.one_ne_zero, if_false]
          by_cases pk : pickM ν (ν.1 0 25).toNat = (v : Int)
          · rw [if_pos pk, if_pos pk, if_pos (by omega)]
            exact ⟨rfl, fun q => by omega⟩
          · rw [if_neg pk, if_neg pk, if_neg (by omega)]
            exact ⟨rfl, fun _ => rfl⟩
        · rw [if_neg z] at e1
          have npk : ¬ pickM ν (ν.1 0 25).toNat = (v : Int) := fun q => by rw [if_pos q] at e1; omega
          rw [if_neg npk] at e1
          rw [if_neg z, if_neg (show ¬ k + 1 = 0 by omega), if_neg npk, if_neg (show ¬ k + 1 = 1 by omega)]
          by_cases rs : restM ν (ν.1 0 25).toNat = (v : Int)
          · have k1 : k = 1 := by
              by_cases q : k = 1
              · exact q
              · rw [if_neg q, if_pos rs] at e1; omega
            rw [if_pos rs, if_pos rs, if_pos (by omega), k1]
            exact ⟨rfl, fun q => by omega⟩
          · rw [if_neg rs, if_neg rs, if_neg (by omega)]
            exact ⟨rfl, fun _ => rfl⟩
    · rw [if_pos hf]
      refine ⟨?_, fun q => absurd q hf⟩
      rw [e1] at hf ⊢
      by_cases c99 : 99 ≤ ν.1 17 (18 + v)
      · rw [if_pos c99] at hf; exact absurd rfl hf
      · rw [if_neg c99] at hf ⊢
        rw [if_neg c99]
        by_cases z : k = 0
        · rw [if_pos z] at hf; exact absurd rfl hf
        · rw [if_neg z] at hf ⊢
          rw [if_neg (show ¬ k + 1 = 0 by omega)]
          by_cases pk : pickM ν (ν.1 0 25).toNat = (v : Int)
          · rw [if_pos pk, if_pos pk]
          · rw [if_neg pk] at hf ⊢
            rw [if_neg pk, if_neg (show ¬ k + 1 = 1 by omega)]
            by_cases q : k = 1
            · rw [if_pos q] at hf; exact absurd rfl hf
            · rw [if_neg q]
theorem dX6_firstOf_0 : decode cX6_firstOf 0 = .ok (.aload_n 1, 1) := by decide +kernel
theorem dX6_firstOf_1 : decode cX6_firstOf 1 = .ok (.iload_n 2, 1) := by decide +kernel
theorem dX6_firstOf_2 : decode cX6_firstOf 2 = .ok (.invokevirtual 147, 3) := by decide +kernel
theorem dX6_firstOf_5 : decode cX6_firstOf 5 = .ok (.bipush 99, 2) := by decide +kernel
theorem dX6_firstOf_7 : decode cX6_firstOf 7 = .ok (.if_icmp .lt 5, 3) := by decide +kernel
theorem dX6_firstOf_10 : decode cX6_firstOf 10 = .ok (.iconst (-1), 1) := by decide +kernel
theorem dX6_firstOf_11 : decode cX6_firstOf 11 = .ok (.ireturn, 1) := by decide +kernel
theorem dX6_firstOf_12 : decode cX6_firstOf 12 = .ok (.aload_n 0, 1) := by decide +kernel
theorem dX6_firstOf_13 : decode cX6_firstOf 13 = .ok (.getfield 33, 3) := by decide +kernel
theorem dX6_firstOf_16 : decode cX6_firstOf 16 = .ok (.aload_n 1, 1) := by decide +kernel
theorem dX6_firstOf_17 : decode cX6_firstOf 17 = .ok (.invokevirtual 150, 3) := by decide +kernel
theorem dX6_firstOf_20 : decode cX6_firstOf 20 = .ok (.iload_n 2, 1) := by decide +kernel
theorem dX6_firstOf_21 : decode cX6_firstOf 21 = .ok (.if_icmp .ne 5, 3) := by decide +kernel
theorem dX6_firstOf_24 : decode cX6_firstOf 24 = .ok (.iconst 1, 1) := by decide +kernel
theorem dX6_firstOf_25 : decode cX6_firstOf 25 = .ok (.ireturn, 1) := by decide +kernel
theorem dX6_firstOf_26 : decode cX6_firstOf 26 = .ok (.aload_n 0, 1) := by decide +kernel
theorem dX6_firstOf_27 : decode cX6_firstOf 27 = .ok (.getfield 29, 3) := by decide +kernel
theorem dX6_firstOf_30 : decode cX6_firstOf 30 = .ok (.iconst 2, 1) := by decide +kernel
theorem dX6_firstOf_31 : decode cX6_firstOf 31 = .ok (.aload_n 0, 1) := by decide +kernel
theorem dX6_firstOf_32 : decode cX6_firstOf 32 = .ok (.getfield 33, 3) := by decide +kernel
theorem dX6_firstOf_35 : decode cX6_firstOf 35 = .ok (.aload_n 1, 1) := by decide +kernel
theorem dX6_firstOf_36 : decode cX6_firstOf 36 = .ok (.invokevirtual 66, 3) := by decide +kernel
theorem dX6_firstOf_39 : decode cX6_firstOf 39 = .ok (.invokevirtual 153, 3) := by decide +kernel
theorem dX6_firstOf_42 : decode cX6_firstOf 42 = .ok (.iload_n 2, 1) := by decide +kernel
theorem dX6_firstOf_43 : decode cX6_firstOf 43 = .ok (.if_icmp .ne 7, 3) := by decide +kernel
theorem dX6_firstOf_46 : decode cX6_firstOf 46 = .ok (.iconst 2, 1) := by decide +kernel
theorem dX6_firstOf_47 : decode cX6_firstOf 47 = .ok (.goto 4, 3) := by decide +kernel
theorem dX6_firstOf_50 : decode cX6_firstOf 50 = .ok (.iconst (-1), 1) := by decide +kernel
theorem dX6_firstOf_51 : decode cX6_firstOf 51 = .ok (.ireturn, 1) := by decide +kernel
set_option maxHeartbeats 4000000 in
set_option maxRecDepth 100000 in
theorem cJ_firstOf {μ ν : Mm} {s : Nat} (h : JR μ s ν) (hy : ν.1 17 36 ≤ 999) {p : Nat} (hp : (p : Int) < ν.1 0 25) : CtE PC 5 yX6_firstOf cX6_firstOf 3 (some .int) [vR 77, vR s, vI ((p : Nat) : Int)] μ (fun r m => r = fsM ν p 60 ∧ Fr jS μ m) := by
  refine ct_intro [some (vR 77), some (vR s), some (vI ((p : Nat) : Int))] RX6 (by decide) rfl XCo rfl (Nat.le_of_ble_eq_true rfl) (fun K hO => ?_)
  have hs := h.ob
  have hnp := h.B.np
  have hnt := h.B.nt
  have hc := h.B.now.cha (j := 18 + p) (by omega) (by omega)
  have hfs := (fsM_eq h.G hy (v := p) (by omega) 60 (by decide)).1
  have hpk := pickM_rng ν (ν.1 0 25).toNat
  have hrs := best_rng (fun q => hasB (inT ν) q) (fun q => ν.1 15 (4 * q + 2)) (ν.1 0 25).toNat
  have hre : best (fun q => hasB (inT ν) q) (fun q => ν.1 15 (4 * q + 2)) (ν.1 0 25).toNat = restM ν (ν.1 0 25).toNat := best_congr _ (fun q hq => by rw [hasB_inT h.B (by omega)]; simp [show (q : Int) < ν.1 0 25 by omega]) (fun _ _ => rfl)
  refine aw_aload_n hO dX6_firstOf_0 rfl rfl ?_
  refine aw_iload_n hO dX6_firstOf_1 rfl rfl ?_
  refine aw_callVI (as := [vI ((p : Nat) : Int)]) (st := []) hO dX6_firstOf_2 rfl (lw_t5 81 rfl rfl) kX7_chains (T := TX7) rfl hs.1 hs.2.1 (cJ_chains h.ob h.S (p := p) (by omega)) (by decide) rfl rfl rfl (Nat.le_of_ble_eq_true rfl) ?_
  refine aw_bipush hO dX6_firstOf_5 rfl (by decide) (by decide) ?_
  refine aw_icmp_lt (tgt := 12) hO dX6_firstOf_7 rfl rfl ⟨by omega, by omega⟩ (inRlit _) (fun c7 => ?_) (fun c7 => ?_)
  · refine aw_aload_n hO dX6_firstOf_12 rfl rfl ?_
    refine gC_X6_33_77 hO dX6_firstOf_13 rfl ?_
    refine aw_aload_n hO dX6_firstOf_16 rfl rfl ?_
    refine aw_callVE (as := [vR s]) (st := []) hO dX6_firstOf_17 rfl (lw_t5 82 rfl rfl) kX3_picked (T := TX3) rfl (by decide) rfl (cJ_picked h) (by decide) rfl rfl rfl (Nat.le_of_ble_eq_true rfl) (fun v1 μ2 hq3 => ?_)
    obtain ⟨e_v1, hF_μ2⟩ := hq3
    have hJ_μ2 := h.fj hF_μ2
    refine aw_iload_n hO dX6_firstOf_20 rfl rfl ?_
    refine aw_icmp_ne (tgt := 26) hO dX6_firstOf_21 rfl rfl ⟨by omega, by omega⟩ (inRn (by omega)) (fun c21 => ?_) (fun c21 => ?_)
    · refine aw_aload_n hO dX6_firstOf_26 rfl rfl ?_
      refine gC_X6_29_77 hO dX6_firstOf_27 rfl ?_
      refine aw_iconst hO dX6_firstOf_30 rfl ?_
      refine aw_aload_n hO dX6_firstOf_31 rfl rfl ?_
      refine gC_X6_33_77 hO dX6_firstOf_32 rfl ?_
      refine aw_aload_n hO dX6_firstOf_35 rfl rfl ?_
      refine aw_callVI (as := [vR s]) (st := [vI 2, vR 25]) hO dX6_firstOf_36 rfl (lw_t4 181 rfl rfl) kX3_inTown (T := TX3) rfl (by decide) rfl (cJ_inTown hJ_μ2) (by decide) rfl rfl rfl (Nat.le_of_ble_eq_true rfl) ?_
      refine aw_callVI (as := [vI 2, vI (inT ν)]) (st := []) hO dX6_firstOf_39 rfl (lw_t5 83 rfl rfl) kX9_mostOfThese (T := TX9) rfl (by decide) rfl (cJ_mostOfThese hJ_μ2.z (k := 2) (b := (inT ν)) (by omega)) (by decide) rfl rfl rfl (Nat.le_of_ble_eq_true rfl) ?_
      refine aw_iload_n hO dX6_firstOf_42 rfl rfl ?_
      refine aw_icmp_ne (tgt := 50) hO dX6_firstOf_43 rfl rfl ⟨by omega, by omega⟩ (inRn (by omega)) (fun c43 => ?_) (fun c43 => ?_)
      · refine aw_iconst hO dX6_firstOf_50 rfl ?_
        refine aw_iret hO dX6_firstOf_51 ?_
        exact ⟨_, rfl, by rw [hfs, if_neg (by omega), if_neg (by decide), if_neg (by rw [← e_v1]; exact c21), if_neg (by decide), if_neg (by rw [← hre]; exact c43)], hF_μ2⟩
      · refine aw_iconst hO dX6_firstOf_46 rfl ?_
        refine aw_goto (tgt := 51) hO dX6_firstOf_47 rfl ?_
        refine aw_iret hO dX6_firstOf_51 ?_
        exact ⟨_, rfl, by rw [hfs, if_neg (by omega), if_neg (by decide), if_neg (by rw [← e_v1]; exact c21), if_neg (by decide), if_pos (by rw [← hre]; exact c43)], hF_μ2⟩
    · refine aw_iconst hO dX6_firstOf_24 rfl ?_
      refine aw_iret hO dX6_firstOf_25 ?_
      exact ⟨_, rfl, by rw [hfs, if_neg (by omega), if_neg (by decide), if_pos (by rw [← e_v1]; exact c21)], hF_μ2⟩
  · refine aw_iconst hO dX6_firstOf_10 rfl ?_
    refine aw_iret hO dX6_firstOf_11 ?_
    exact ⟨_, rfl, by rw [hfs, if_pos c7], Fr.rf⟩
theorem dX6_lowestDoor_0 : decode cX6_lowestDoor 0 = .ok (.iload_n 1, 1) := by decide +kernel
theorem dX6_lowestDoor_1 : decode cX6_lowestDoor 1 = .ok (.istore_n 3, 1) := by decide +kernel
theorem dX6_lowestDoor_2 : decode cX6_lowestDoor 2 = .ok (.iconst 0, 1) := by decide +kernel
theorem dX6_lowestDoor_3 : decode cX6_lowestDoor 3 = .ok (.istore 4, 2) := by decide +kernel
theorem dX6_lowestDoor_5 : decode cX6_lowestDoor 5 = .ok (.iload 4, 2) := by decide +kernel
theorem dX6_lowestDoor_7 : decode cX6_lowestDoor 7 = .ok (.aload_n 0, 1) := by decide +kernel
theorem dX6_lowestDoor_8 : decode cX6_lowestDoor 8 = .ok (.getfield 29, 3) := by decide +kernel
theorem dX6_lowestDoor_11 : decode cX6_lowestDoor 11 = .ok (.getfield 94, 3) := by decide +kernel
theorem dX6_lowestDoor_14 : decode cX6_lowestDoor 14 = .ok (.if_icmp .ge 33, 3) := by decide +kernel
theorem dX6_lowestDoor_17 : decode cX6_lowestDoor 17 = .ok (.iload_n 2, 1) := by decide +kernel
theorem dX6_lowestDoor_18 : decode cX6_lowestDoor 18 = .ok (.iload 4, 2) := by decide +kernel
theorem dX6_lowestDoor_20 : decode cX6_lowestDoor 20 = .ok (.ishr, 1) := by decide +kernel
theorem dX6_lowestDoor_21 : decode cX6_lowestDoor 21 = .ok (.iconst 1, 1) := by decide +kernel
theorem dX6_lowestDoor_22 : decode cX6_lowestDoor 22 = .ok (.iand, 1) := by decide +kernel
theorem dX6_lowestDoor_23 : decode cX6_lowestDoor 23 = .ok (.iconst 1, 1) := by decide +kernel
theorem dX6_lowestDoor_24 : decode cX6_lowestDoor 24 = .ok (.if_icmp .ne 17, 3) := by decide +kernel
theorem dX6_lowestDoor_27 : decode cX6_lowestDoor 27 = .ok (.iload_n 3, 1) := by decide +kernel
theorem dX6_lowestDoor_28 : decode cX6_lowestDoor 28 = .ok (.aload_n 0, 1) := by decide +kernel
theorem dX6_lowestDoor_29 : decode cX6_lowestDoor 29 = .ok (.getfield 29, 3) := by decide +kernel
theorem dX6_lowestDoor_32 : decode cX6_lowestDoor 32 = .ok (.iload 4, 2) := by decide +kernel
theorem dX6_lowestDoor_34 : decode cX6_lowestDoor 34 = .ok (.invokevirtual 99, 3) := by decide +kernel
theorem dX6_lowestDoor_37 : decode cX6_lowestDoor 37 = .ok (.invokestatic 89, 3) := by decide +kernel
theorem dX6_lowestDoor_40 : decode cX6_lowestDoor 40 = .ok (.istore_n 3, 1) := by decide +kernel
theorem dX6_lowestDoor_41 : decode cX6_lowestDoor 41 = .ok (.iinc 4 1, 3) := by decide +kernel
theorem dX6_lowestDoor_44 : decode cX6_lowestDoor 44 = .ok (.goto (-39), 3) := by decide +kernel
theorem dX6_lowestDoor_47 : decode cX6_lowestDoor 47 = .ok (.iload_n 3, 1) := by decide +kernel
theorem dX6_lowestDoor_48 : decode cX6_lowestDoor 48 = .ok (.ireturn, 1) := by decide +kernel
set_option maxHeartbeats 4000000 in
set_option maxRecDepth 100000 in
theorem cJ_lowestDoor {μ ν : Mm} (h : JR0 μ ν) {fr b : Int} (h1 : 0 ≤ fr) (h2 : fr ≤ 20) : CtI PC 1 yX6_lowestDoor cX6_lowestDoor 5 (some .int) [vR 77, vI fr, vI b] μ (min fr (loF b (fun q => ν.1 15 (4 * q + 3)) (ν.1 0 25).toNat)) := by
  refine ct_intro [some (vR 77), some (vI fr), some (vI b), none, none] RX6 (by decide) rfl XCo rfl (Nat.le_of_ble_eq_true rfl) (fun K hO => ?_)
  have hnp := h.B.np
  have hnt := h.B.nt
  have lp : ∀ (c : Nat) (i : Nat) (x : Int), ((i : Int) + c = ν.1 0 25) → (x = min fr (loF b (fun q => ν.1 15 (4 * q + 3)) i)) → AW K 5 [some (vR 77), some (vI fr), some (vI b), some (vI x), some (vI ((i : Nat) : Int))] [] μ := by
    intro c
    induction c with
    | zero =>
      intro i x hi hx
      refine aw_iload hO dX6_lowestDoor_5 rfl rfl ?_
      refine aw_aload_n hO dX6_lowestDoor_7 rfl rfl ?_
      refine gC_X6_29_77 hO dX6_lowestDoor_8 rfl ?_
      refine gC_X6_94_25 hO dX6_lowestDoor_11 rfl ?_
      refine aw_cg h.T.n ?_
      refine aw_icmp_ge (tgt := 47) hO dX6_lowestDoor_14 rfl rfl (inRn (by omega)) ⟨by omega, by omega⟩ (fun c14 => ?_) (fun c14 => ?_)
      · refine aw_iload_n hO dX6_lowestDoor_47 rfl rfl ?_
        refine aw_iret hO dX6_lowestDoor_48 ?_
        exact rI (by rw [hx, show i = (ν.1 0 25).toNat by omega])
      · exact absurd c14 (by omega)
    | succ c ih =>
      intro i x hi hx
      have hdr := h.B.per (p := i) (k := 3) (by omega) (by decide)
      have hlh := lohi_rng (s := b) (dr := (fun q => ν.1 15 (4 * q + 3))) (fun q hq => h.B.per hq (by decide)) i (by omega)
      refine aw_iload hO dX6_lowestDoor_5 rfl rfl ?_
      refine aw_aload_n hO dX6_lowestDoor_7 rfl rfl ?_
      refine gC_X6_29_77 hO dX6_lowestDoor_8 rfl ?_
      refine gC_X6_94_25 hO dX6_lowestDoor_11 rfl ?_
      refine aw_cg h.T.n ?_
      refine aw_icmp_ge (tgt := 47) hO dX6_lowestDoor_14 rfl rfl (inRn (by omega)) ⟨by omega, by omega⟩ (fun c14 => ?_) (fun c14 => ?_)
      · exact absurd c14 (by omega)
      · refine aw_iload_n hO dX6_lowestDoor_17 rfl rfl ?_
        refine aw_iload hO dX6_lowestDoor_18 rfl rfl ?_
        refine aw_ishr hO dX6_lowestDoor_20 rfl ?_
        refine aw_iconst hO dX6_lowestDoor_21 rfl ?_
        refine aw_iand hO dX6_lowestDoor_22 rfl ?_
        refine aw_iconst hO dX6_lowestDoor_23 rfl ?_
        refine aw_icmp_ne (tgt := 41) hO dX6_lowestDoor_24 rfl rfl (bAnd_R _ _) (inRlit _) (fun c24 => ?_) (fun c24 => ?_)
        · have c24b : ¬ hasB b i = true := fun e => c24 (of_decide_eq_true e)
          refine aw_iinc (ls' := [some (vR 77), some (vI fr), some (vI b), some (vI x), some (vI (((i : Nat) : Int) + 1))]) hO dX6_lowestDoor_41 rfl rfl rfl rfl ?_
          refine aw_lsq (ls' := [some (vR 77), some (vI fr), some (vI b), some (vI x), some (vI (((i + 1) : Nat) : Int))]) rfl ?_
          refine aw_goto (tgt := 5) hO dX6_lowestDoor_44 rfl ?_
          refine aw_lsq (ls' := [some (vR 77), some (vI fr), some (vI b), some (vI x), some (vI (((i + 1) : Nat) : Int))]) rfl ?_
          exact ih (i + 1) x (by omega) (by rw [loF, if_neg c24b]; exact hx)
        · have c24b : hasB b i = true := decide_eq_true c24
          refine aw_iload_n hO dX6_lowestDoor_27 rfl rfl ?_
          refine aw_aload_n hO dX6_lowestDoor_28 rfl rfl ?_
          refine gC_X6_29_77 hO dX6_lowestDoor_29 rfl ?_
          refine aw_iload hO dX6_lowestDoor_32 rfl rfl ?_
          refine aw_callVI (as := [vI ((i : Nat) : Int)]) (st := [vI x]) hO dX6_lowestDoor_34 rfl (lw_t4 202 rfl rfl) kX9_door (T := TX9) rfl (by decide) rfl (cJ_door h (p := i) (by omega)) (by decide) rfl rfl rfl (Nat.le_of_ble_eq_true rfl) ?_
          refine aw_mmin hO dX6_lowestDoor_37 rfl (lw_t4 203 rfl rfl) mth_min (by decide) rfl (Nat.le_of_ble_eq_true rfl) ⟨by omega, by omega⟩ ⟨by omega, by omega⟩ ?_
          refine aw_istore_n (ls' := [some (vR 77), some (vI fr), some (vI b), some (vI (min x (ν.1 15 (4 * i + 3)))), some (vI ((i : Nat) : Int))]) hO dX6_lowestDoor_40 rfl (Nat.le_of_ble_eq_true rfl) rfl rfl ?_
          refine aw_iinc (ls' := [some (vR 77), some (vI fr), some (vI b), some (vI (min x (ν.1 15 (4 * i + 3)))), some (vI (((i : Nat) : Int) + 1))]) hO dX6_lowestDoor_41 rfl rfl rfl rfl ?_
          refine aw_lsq (ls' := [some (vR 77), some (vI fr), some (vI b), some (vI (min x (ν.1 15 (4 * i + 3)))), some (vI (((i + 1) : Nat) : Int))]) rfl ?_
          refine aw_goto (tgt := 5) hO dX6_lowestDoor_44 rfl ?_
          refine aw_lsq (ls' := [some (vR 77), some (vI fr), some (vI b), some (vI (min x (ν.1 15 (4 * i + 3)))), some (vI (((i + 1) : Nat) : Int))]) rfl ?_
          exact ih (i + 1) _ (by omega) (by rw [loF, if_pos c24b, hx]; omega)
  refine aw_iload_n hO dX6_lowestDoor_0 rfl rfl ?_
  refine aw_istore_n (ls' := [some (vR 77), some (vI fr), some (vI b), some (vI fr), none]) hO dX6_lowestDoor_1 rfl (Nat.le_of_ble_eq_true rfl) rfl rfl ?_
  refine aw_iconst hO dX6_lowestDoor_2 rfl ?_
  refine aw_istore (ls' := [some (vR 77), some (vI fr), some (vI b), some (vI fr), some (vI 0)]) hO dX6_lowestDoor_3 rfl (Nat.le_of_ble_eq_true rfl) rfl rfl ?_
  refine aw_lsq (ls' := [some (vR 77), some (vI fr), some (vI b), some (vI fr), some (vI ((0 : Nat) : Int))]) rfl ?_
  exact lp (ν.1 0 25).toNat 0 fr (by omega) (by rw [loF]; omega)
theorem dX6_highestDoor_0 : decode cX6_highestDoor 0 = .ok (.iload_n 1, 1) := by decide +kernel
theorem dX6_highestDoor_1 : decode cX6_highestDoor 1 = .ok (.istore_n 3, 1) := by decide +kernel
theorem dX6_highestDoor_2 : decode cX6_highestDoor 2 = .ok (.iconst 0, 1) := by decide +kernel
theorem dX6_highestDoor_3 : decode cX6_highestDoor 3 = .ok (.istore 4, 2) := by decide +kernel
theorem dX6_highestDoor_5 : decode cX6_highestDoor 5 = .ok (.iload 4, 2) := by decide +kernel
theorem dX6_highestDoor_7 : decode cX6_highestDoor 7 = .ok (.aload_n 0, 1) := by decide +kernel
theorem dX6_highestDoor_8 : decode cX6_highestDoor 8 = .ok (.getfield 29, 3) := by decide +kernel
theorem dX6_highestDoor_11 : decode cX6_highestDoor 11 = .ok (.getfield 94, 3) := by decide +kernel
theorem dX6_highestDoor_14 : decode cX6_highestDoor 14 = .ok (.if_icmp .ge 33, 3) := by decide +kernel
theorem dX6_highestDoor_17 : decode cX6_highestDoor 17 = .ok (.iload_n 2, 1) := by decide +kernel
theorem dX6_highestDoor_18 : decode cX6_highestDoor 18 = .ok (.iload 4, 2) := by decide +kernel
theorem dX6_highestDoor_20 : decode cX6_highestDoor 20 = .ok (.ishr, 1) := by decide +kernel
theorem dX6_highestDoor_21 : decode cX6_highestDoor 21 = .ok (.iconst 1, 1) := by decide +kernel
theorem dX6_highestDoor_22 : decode cX6_highestDoor 22 = .ok (.iand, 1) := by decide +kernel
theorem dX6_highestDoor_23 : decode cX6_highestDoor 23 = .ok (.iconst 1, 1) := by decide +kernel
theorem dX6_highestDoor_24 : decode cX6_highestDoor 24 = .ok (.if_icmp .ne 17, 3) := by decide +kernel
theorem dX6_highestDoor_27 : decode cX6_highestDoor 27 = .ok (.iload_n 3, 1) := by decide +kernel
theorem dX6_highestDoor_28 : decode cX6_highestDoor 28 = .ok (.aload_n 0, 1) := by decide +kernel
theorem dX6_highestDoor_29 : decode cX6_highestDoor 29 = .ok (.getfield 29, 3) := by decide +kernel
theorem dX6_highestDoor_32 : decode cX6_highestDoor 32 = .ok (.iload 4, 2) := by decide +kernel
theorem dX6_highestDoor_34 : decode cX6_highestDoor 34 = .ok (.invokevirtual 99, 3) := by decide +kernel
theorem dX6_highestDoor_37 : decode cX6_highestDoor 37 = .ok (.invokestatic 102, 3) := by decide +kernel
theorem dX6_highestDoor_40 : decode cX6_highestDoor 40 = .ok (.istore_n 3, 1) := by decide +kernel
theorem dX6_highestDoor_41 : decode cX6_highestDoor 41 = .ok (.iinc 4 1, 3) := by decide +kernel
theorem dX6_highestDoor_44 : decode cX6_highestDoor 44 = .ok (.goto (-39), 3) := by decide +kernel
theorem dX6_highestDoor_47 : decode cX6_highestDoor 47 = .ok (.iload_n 3, 1) := by decide +kernel
theorem dX6_highestDoor_48 : decode cX6_highestDoor 48 = .ok (.ireturn, 1) := by decide +kernel
set_option maxHeartbeats 4000000 in
set_option maxRecDepth 100000 in
theorem cJ_highestDoor {μ ν : Mm} (h : JR0 μ ν) {fr b : Int} (h1 : 0 ≤ fr) (h2 : fr ≤ 20) : CtI PC 1 yX6_highestDoor cX6_highestDoor 5 (some .int) [vR 77, vI fr, vI b] μ (max fr (hiF b (fun q => ν.1 15 (4 * q + 3)) (ν.1 0 25).toNat)) := by
  refine ct_intro [some (vR 77), some (vI fr), some (vI b), none, none] RX6 (by decide) rfl XCo rfl (Nat.le_of_ble_eq_true rfl) (fun K hO => ?_)
  have hnp := h.B.np
  have hnt := h.B.nt
  have lp : ∀ (c : Nat) (i : Nat) (x : Int), ((i : Int) + c = ν.1 0 25) → (x = max fr (hiF b (fun q => ν.1 15 (4 * q + 3)) i)) → AW K 5 [some (vR 77), some (vI fr), some (vI b), some (vI x), some (vI ((i : Nat) : Int))] [] μ := by
    intro c
    induction c with
    | zero =>
      intro i x hi hx
      refine aw_iload hO dX6_highestDoor_5 rfl rfl ?_
      refine aw_aload_n hO dX6_highestDoor_7 rfl rfl ?_
      refine gC_X6_29_77 hO dX6_highestDoor_8 rfl ?_
      refine gC_X6_94_25 hO dX6_highestDoor_11 rfl ?_
      refine aw_cg h.T.n ?_
      refine aw_icmp_ge (tgt := 47) hO dX6_highestDoor_14 rfl rfl (inRn (by omega)) ⟨by omega, by omega⟩ (fun c14 => ?_) (fun c14 => ?_)
      · refine aw_iload_n hO dX6_highestDoor_47 rfl rfl ?_
        refine aw_iret hO dX6_highestDoor_48 ?_
        exact rI (by rw [hx, show i = (ν.1 0 25).toNat by omega])
      · exact absurd c14 (by omega)
    | succ c ih =>
      intro i x hi hx
      have hdr := h.B.per (p := i) (k := 3) (by omega) (by decide)
      have hlh := lohi_rng (s := b) (dr := (fun q => ν.1 15 (4 * q + 3))) (fun q hq => h.B.per hq (by decide)) i (by omega)
      refine aw_iload hO dX6_highestDoor_5 rfl rfl ?_
      refine aw_aload_n hO dX6_highestDoor_7 rfl rfl ?_
      refine gC_X6_29_77 hO dX6_highestDoor_8 rfl ?_
      refine gC_X6_94_25 hO dX6_highestDoor_11 rfl ?_
      refine aw_cg h.T.n ?_
      refine aw_icmp_ge (tgt := 47) hO dX6_highestDoor_14 rfl rfl (inRn (by omega)) ⟨by omega, by omega⟩ (fun c14 => ?_) (fun c14 => ?_)
      · exact absurd c14 (by omega)
      · refine aw_iload_n hO dX6_highestDoor_17 rfl rfl ?_
        refine aw_iload hO dX6_highestDoor_18 rfl rfl ?_
        refine aw_ishr hO dX6_highestDoor_20 rfl ?_
        refine aw_iconst hO dX6_highestDoor_21 rfl ?_
        refine aw_iand hO dX6_highestDoor_22 rfl ?_
        refine aw_iconst hO dX6_highestDoor_23 rfl ?_
        refine aw_icmp_ne (tgt := 41) hO dX6_highestDoor_24 rfl rfl (bAnd_R _ _) (inRlit _) (fun c24 => ?_) (fun c24 => ?_)
        · have c24b : ¬ hasB b i = true := fun e => c24 (of_decide_eq_true e)
          refine aw_iinc (ls' := [some (vR 77), some (vI fr), some (vI b), some (vI x), some (vI (((i : Nat) : Int) + 1))]) hO dX6_highestDoor_41 rfl rfl rfl rfl ?_
          refine aw_lsq (ls' := [some (vR 77), some (vI fr), some (vI b), some (vI x), some (vI (((i + 1) : Nat) : Int))]) rfl ?_
          refine aw_goto (tgt := 5) hO dX6_highestDoor_44 rfl ?_
          refine aw_lsq (ls' := [some (vR 77), some (vI fr), some (vI b), some (vI x), some (vI (((i + 1) : Nat) : Int))]) rfl ?_
          exact ih (i + 1) x (by omega) (by rw [hiF, if_neg c24b]; exact hx)
        · have c24b : hasB b i = true := decide_eq_true c24
          refine aw_iload_n hO dX6_highestDoor_27 rfl rfl ?_
          refine aw_aload_n hO dX6_highestDoor_28 rfl rfl ?_
          refine gC_X6_29_77 hO dX6_highestDoor_29 rfl ?_
          refine aw_iload hO dX6_highestDoor_32 rfl rfl ?_
          refine aw_callVI (as := [vI ((i : Nat) : Int)]) (st := [vI x]) hO dX6_highestDoor_34 rfl (lw_t4 202 rfl rfl) kX9_door (T := TX9) rfl (by decide) rfl (cJ_door h (p := i) (by omega)) (by decide) rfl rfl rfl (Nat.le_of_ble_eq_true rfl) ?_
          refine aw_mmax hO dX6_highestDoor_37 rfl (lw_t4 208 rfl rfl) mth_max (by decide) rfl (Nat.le_of_ble_eq_true rfl) ⟨by omega, by omega⟩ ⟨by omega, by omega⟩ ?_
          refine aw_istore_n (ls' := [some (vR 77), some (vI fr), some (vI b), some (vI (max x (ν.1 15 (4 * i + 3)))), some (vI ((i : Nat) : Int))]) hO dX6_highestDoor_40 rfl (Nat.le_of_ble_eq_true rfl) rfl rfl ?_
          refine aw_iinc (ls' := [some (vR 77), some (vI fr), some (vI b), some (vI (max x (ν.1 15 (4 * i + 3)))), some (vI (((i : Nat) : Int) + 1))]) hO dX6_highestDoor_41 rfl rfl rfl rfl ?_
          refine aw_lsq (ls' := [some (vR 77), some (vI fr), some (vI b), some (vI (max x (ν.1 15 (4 * i + 3)))), some (vI (((i + 1) : Nat) : Int))]) rfl ?_
          refine aw_goto (tgt := 5) hO dX6_highestDoor_44 rfl ?_
          refine aw_lsq (ls' := [some (vR 77), some (vI fr), some (vI b), some (vI (max x (ν.1 15 (4 * i + 3)))), some (vI (((i + 1) : Nat) : Int))]) rfl ?_
          exact ih (i + 1) _ (by omega) (by rw [hiF, if_pos c24b, hx]; omega)
  refine aw_iload_n hO dX6_highestDoor_0 rfl rfl ?_
  refine aw_istore_n (ls' := [some (vR 77), some (vI fr), some (vI b), some (vI fr), none]) hO dX6_highestDoor_1 rfl (Nat.le_of_ble_eq_true rfl) rfl rfl ?_
  refine aw_iconst hO dX6_highestDoor_2 rfl ?_
  refine aw_istore (ls' := [some (vR 77), some (vI fr), some (vI b), some (vI fr), some (vI 0)]) hO dX6_highestDoor_3 rfl (Nat.le_of_ble_eq_true rfl) rfl rfl ?_
  refine aw_lsq (ls' := [some (vR 77), some (vI fr), some (vI b), some (vI fr), some (vI ((0 : Nat) : Int))]) rfl ?_
  exact lp (ν.1 0 25).toNat 0 fr (by omega) (by rw [hiF]; omega)
theorem lohi_le {b : Int} {dr : Nat → Int} (h : ∀ p, p < 6 → 0 ≤ dr p ∧ dr p ≤ 99) : ∀ n, n ≤ 6 → (∃ p, p < n ∧ hasB b p = true) → loF b dr n ≤ hiF b dr n
  | 0, _, ⟨p, hp, _⟩ => by omega
  | n + 1, hn, ⟨p, hp, hb⟩ => by
    have hr := lohi_rng (s := b) h n (by omega)
    have hd := h n (by omega)
    rw [loF, hiF]
    by_cases e : hasB b n = true
    · rw [if_pos e, if_pos e]; omega
    · rw [if_neg e, if_neg e]
      exact lohi_le h n (by omega) ⟨p, by rcases Nat.lt_or_ge p n with z | z; exact z; exact absurd (show hasB b n = true by rw [show n = p by omega]; exact hb) e, hb⟩
theorem grp_some {b n : Int} (hn : 0 ≤ n) (hn2 : n ≤ 6) (h1 : 1 ≤ b) (h2 : b ≤ bShl 1 n - 1) : ∃ p, p < n.toNat ∧ hasB b p = true := by
  have hall : ∀ n : Fin 7, ∀ b : Fin 64, 1 ≤ b.val → ((b.val : Nat) : Int) ≤ bShl 1 ((n.val : Nat) : Int) - 1 → ((List.range n.val).any (fun p => hasB ((b.val : Nat) : Int) p)) = true := by decide +kernel
  have he := evb_rng hn hn2
  have := hall ⟨n.toNat, by omega⟩ ⟨b.toNat, by omega⟩ (by simp only; omega) (by simp only [Int.toNat_of_nonneg hn, Int.toNat_of_nonneg (show 0 ≤ b by omega)]; exact h2)
  simp only [Int.toNat_of_nonneg (show 0 ≤ b by omega)] at this
  obtain ⟨p, h3, h4⟩ := List.any_eq_true.mp this
  exact ⟨p, List.mem_range.mp h3, h4⟩
theorem dX6_tourSteps_0 : decode cX6_tourSteps 0 = .ok (.aload_n 1, 1) := by decide +kernel
theorem dX6_tourSteps_1 : decode cX6_tourSteps 1 = .ok (.getfield 80, 3) := by decide +kernel
theorem dX6_tourSteps_4 : decode cX6_tourSteps 4 = .ok (.iconst 0, 1) := by decide +kernel
theorem dX6_tourSteps_5 : decode cX6_tourSteps 5 = .ok (.iaload, 1) := by decide +kernel
theorem dX6_tourSteps_6 : decode cX6_tourSteps 6 = .ok (.istore_n 3, 1) := by decide +kernel
theorem dX6_tourSteps_7 : decode cX6_tourSteps 7 = .ok (.iload_n 3, 1) := by decide +kernel
theorem dX6_tourSteps_8 : decode cX6_tourSteps 8 = .ok (.aload_n 0, 1) := by decide +kernel
theorem dX6_tourSteps_9 : decode cX6_tourSteps 9 = .ok (.iload_n 3, 1) := by decide +kernel
theorem dX6_tourSteps_10 : decode cX6_tourSteps 10 = .ok (.iload_n 2, 1) := by decide +kernel
theorem dX6_tourSteps_11 : decode cX6_tourSteps 11 = .ok (.invokevirtual 83, 3) := by decide +kernel
theorem dX6_tourSteps_14 : decode cX6_tourSteps 14 = .ok (.isub, 1) := by decide +kernel
theorem dX6_tourSteps_15 : decode cX6_tourSteps 15 = .ok (.istore 4, 2) := by decide +kernel
theorem dX6_tourSteps_17 : decode cX6_tourSteps 17 = .ok (.aload_n 0, 1) := by decide +kernel
theorem dX6_tourSteps_18 : decode cX6_tourSteps 18 = .ok (.iload_n 3, 1) := by decide +kernel
theorem dX6_tourSteps_19 : decode cX6_tourSteps 19 = .ok (.iload_n 2, 1) := by decide +kernel
theorem dX6_tourSteps_20 : decode cX6_tourSteps 20 = .ok (.invokevirtual 86, 3) := by decide +kernel
theorem dX6_tourSteps_23 : decode cX6_tourSteps 23 = .ok (.iload_n 3, 1) := by decide +kernel
theorem dX6_tourSteps_24 : decode cX6_tourSteps 24 = .ok (.isub, 1) := by decide +kernel
theorem dX6_tourSteps_25 : decode cX6_tourSteps 25 = .ok (.istore 5, 2) := by decide +kernel
theorem dX6_tourSteps_27 : decode cX6_tourSteps 27 = .ok (.iload 4, 2) := by decide +kernel
theorem dX6_tourSteps_29 : decode cX6_tourSteps 29 = .ok (.iload 5, 2) := by decide +kernel
theorem dX6_tourSteps_31 : decode cX6_tourSteps 31 = .ok (.iadd, 1) := by decide +kernel
theorem dX6_tourSteps_32 : decode cX6_tourSteps 32 = .ok (.ifCond .ne 7, 3) := by decide +kernel
theorem dX6_tourSteps_35 : decode cX6_tourSteps 35 = .ok (.iconst 1, 1) := by decide +kernel
theorem dX6_tourSteps_36 : decode cX6_tourSteps 36 = .ok (.goto 16, 3) := by decide +kernel
theorem dX6_tourSteps_39 : decode cX6_tourSteps 39 = .ok (.iload 4, 2) := by decide +kernel
theorem dX6_tourSteps_41 : decode cX6_tourSteps 41 = .ok (.iload 5, 2) := by decide +kernel
theorem dX6_tourSteps_43 : decode cX6_tourSteps 43 = .ok (.iadd, 1) := by decide +kernel
theorem dX6_tourSteps_44 : decode cX6_tourSteps 44 = .ok (.iload 4, 2) := by decide +kernel
theorem dX6_tourSteps_46 : decode cX6_tourSteps 46 = .ok (.iload 5, 2) := by decide +kernel
theorem dX6_tourSteps_48 : decode cX6_tourSteps 48 = .ok (.invokestatic 89, 3) := by decide +kernel
theorem dX6_tourSteps_51 : decode cX6_tourSteps 51 = .ok (.iadd, 1) := by decide +kernel
theorem dX6_tourSteps_52 : decode cX6_tourSteps 52 = .ok (.ireturn, 1) := by decide +kernel
set_option maxHeartbeats 4000000 in
set_option maxRecDepth 100000 in
theorem cJ_tourSteps {μ ν : Mm} {s : Nat} (h : JR μ s ν) {b : Int} (hb : ∃ p, p < (ν.1 0 25).toNat ∧ hasB b p = true) : CtI PC 2 yX6_tourSteps cX6_tourSteps 6 (some .int) [vR 77, vR s, vI b] μ (touM (loF b (fun q => ν.1 15 (4 * q + 3)) (ν.1 0 25).toNat) (hiF b (fun q => ν.1 15 (4 * q + 3)) (ν.1 0 25).toNat) (ν.1 17 29) 0) := by
  refine ct_intro [some (vR 77), some (vR s), some (vI b), none, none, none] RX6 (by decide) rfl XCo rfl (Nat.le_of_ble_eq_true rfl) (fun K hO => ?_)
  have hs := h.ob
  have hnp := h.B.np
  have hnt := h.B.nt
  have hr := h.B.now.rest
  have hlh := lohi_rng (s := b) (dr := (fun q => ν.1 15 (4 * q + 3))) (fun q hq => h.B.per hq (by decide)) (ν.1 0 25).toNat (by omega)
  have hle := lohi_le (b := b) (dr := (fun q => ν.1 15 (4 * q + 3))) (fun q hq => h.B.per hq (by decide)) (ν.1 0 25).toNat (by omega) hb
  generalize hlo : loF b (fun q => ν.1 15 (4 * q + 3)) (ν.1 0 25).toNat = lo at *
  generalize hhi : hiF b (fun q => ν.1 15 (4 * q + 3)) (ν.1 0 25).toNat = hg at *
  refine aw_aload_n hO dX6_tourSteps_0 rfl rfl ?_
  refine aw_getN (f := 0) hO dX6_tourSteps_1 rfl okX7 (by decide) (lw_t1n 153 rfl rfl) hs.1 hs.2.1 rfl rfl ?_
  refine aw_iconst hO dX6_tourSteps_4 rfl ?_
  refine aw_ialdn (N := 98) (i := 0) hO dX6_tourSteps_5 rfl hs.2.2.1 hs.2.2.2 (by decide) rfl (by decide) ?_
  refine aw_cg h.S.sc.1 ?_
  refine aw_istore_n (ls' := [some (vR 77), some (vR s), some (vI b), some (vI (ν.1 17 29)), none, none]) hO dX6_tourSteps_6 rfl (Nat.le_of_ble_eq_true rfl) rfl rfl ?_
  refine aw_iload_n hO dX6_tourSteps_7 rfl rfl ?_
  refine aw_aload_n hO dX6_tourSteps_8 rfl rfl ?_
  refine aw_iload_n hO dX6_tourSteps_9 rfl rfl ?_
  refine aw_iload_n hO dX6_tourSteps_10 rfl rfl ?_
  refine aw_callVI (as := [vI (ν.1 17 29), vI b]) (st := [vI (ν.1 17 29)]) hO dX6_tourSteps_11 rfl (lw_t4 198 rfl rfl) kX6_lowestDoor (T := TX6) rfl (by decide) rfl (cJ_lowestDoor h.z (fr := (ν.1 17 29)) (b := b) (by omega) (by omega)) (by decide) rfl rfl rfl (Nat.le_of_ble_eq_true rfl) ?_
  refine aw_cg (congrArg (min (ν.1 17 29)) hlo) ?_
  refine aw_isub hO dX6_tourSteps_14 rfl ?_
  refine aw_istore (ls' := [some (vR 77), some (vR s), some (vI b), some (vI (ν.1 17 29)), some (vI ((ν.1 17 29) - (min (ν.1 17 29) lo))), none]) hO dX6_tourSteps_15 rfl (Nat.le_of_ble_eq_true rfl) rfl rfl ?_
  refine aw_aload_n hO dX6_tourSteps_17 rfl rfl ?_
  refine aw_iload_n hO dX6_tourSteps_18 rfl rfl ?_
  refine aw_iload_n hO dX6_tourSteps_19 rfl rfl ?_
  refine aw_callVI (as := [vI (ν.1 17 29), vI b]) (st := []) hO dX6_tourSteps_20 rfl (lw_t4 204 rfl rfl) kX6_highestDoor (T := TX6) rfl (by decide) rfl (cJ_highestDoor h.z (fr := (ν.1 17 29)) (b := b) (by omega) (by omega)) (by decide) rfl rfl rfl (Nat.le_of_ble_eq_true rfl) ?_
  refine aw_cg (congrArg (max (ν.1 17 29)) hhi) ?_
  refine aw_iload_n hO dX6_tourSteps_23 rfl rfl ?_
  refine aw_isub hO dX6_tourSteps_24 rfl ?_
  refine aw_istore (ls' := [some (vR 77), some (vR s), some (vI b), some (vI (ν.1 17 29)), some (vI ((ν.1 17 29) - (min (ν.1 17 29) lo))), some (vI ((max (ν.1 17 29) hg) - (ν.1 17 29)))]) hO dX6_tourSteps_25 rfl (Nat.le_of_ble_eq_true rfl) rfl rfl ?_
  refine aw_iload hO dX6_tourSteps_27 rfl rfl ?_
  refine aw_iload hO dX6_tourSteps_29 rfl rfl ?_
  refine aw_iadd hO dX6_tourSteps_31 rfl ?_
  refine aw_if_ne (tgt := 39) hO dX6_tourSteps_32 rfl rfl ⟨by omega, by omega⟩ (fun c32 => ?_) (fun c32 => ?_)
  · refine aw_iload hO dX6_tourSteps_39 rfl rfl ?_
    refine aw_iload hO dX6_tourSteps_41 rfl rfl ?_
    refine aw_iadd hO dX6_tourSteps_43 rfl ?_
    refine aw_iload hO dX6_tourSteps_44 rfl rfl ?_
    refine aw_iload hO dX6_tourSteps_46 rfl rfl ?_
    refine aw_mmin hO dX6_tourSteps_48 rfl (lw_t4 203 rfl rfl) mth_min (by decide) rfl (Nat.le_of_ble_eq_true rfl) ⟨by omega, by omega⟩ ⟨by omega, by omega⟩ ?_
    refine aw_iadd hO dX6_tourSteps_51 rfl ?_
    refine aw_iret hO dX6_tourSteps_52 ?_
    exact rI (by unfold touM; (repeat' split) <;> omega)
  · refine aw_iconst hO dX6_tourSteps_35 rfl ?_
    refine aw_goto (tgt := 52) hO dX6_tourSteps_36 rfl ?_
    refine aw_iret hO dX6_tourSteps_52 ?_
    exact rI (by unfold touM; (repeat' split) <;> omega)
theorem dX6_tourEnd_0 : decode cX6_tourEnd 0 = .ok (.aload_n 1, 1) := by decide +kernel
theorem dX6_tourEnd_1 : decode cX6_tourEnd 1 = .ok (.getfield 80, 3) := by decide +kernel
theorem dX6_tourEnd_4 : decode cX6_tourEnd 4 = .ok (.iconst 0, 1) := by decide +kernel
theorem dX6_tourEnd_5 : decode cX6_tourEnd 5 = .ok (.iaload, 1) := by decide +kernel
theorem dX6_tourEnd_6 : decode cX6_tourEnd 6 = .ok (.istore_n 3, 1) := by decide +kernel
theorem dX6_tourEnd_7 : decode cX6_tourEnd 7 = .ok (.aload_n 0, 1) := by decide +kernel
theorem dX6_tourEnd_8 : decode cX6_tourEnd 8 = .ok (.iload_n 3, 1) := by decide +kernel
theorem dX6_tourEnd_9 : decode cX6_tourEnd 9 = .ok (.iload_n 2, 1) := by decide +kernel
theorem dX6_tourEnd_10 : decode cX6_tourEnd 10 = .ok (.invokevirtual 83, 3) := by decide +kernel
theorem dX6_tourEnd_13 : decode cX6_tourEnd 13 = .ok (.istore 4, 2) := by decide +kernel
theorem dX6_tourEnd_15 : decode cX6_tourEnd 15 = .ok (.aload_n 0, 1) := by decide +kernel
theorem dX6_tourEnd_16 : decode cX6_tourEnd 16 = .ok (.iload_n 3, 1) := by decide +kernel
theorem dX6_tourEnd_17 : decode cX6_tourEnd 17 = .ok (.iload_n 2, 1) := by decide +kernel
theorem dX6_tourEnd_18 : decode cX6_tourEnd 18 = .ok (.invokevirtual 86, 3) := by decide +kernel
theorem dX6_tourEnd_21 : decode cX6_tourEnd 21 = .ok (.istore 5, 2) := by decide +kernel
theorem dX6_tourEnd_23 : decode cX6_tourEnd 23 = .ok (.iload 4, 2) := by decide +kernel
theorem dX6_tourEnd_25 : decode cX6_tourEnd 25 = .ok (.iload 5, 2) := by decide +kernel
theorem dX6_tourEnd_27 : decode cX6_tourEnd 27 = .ok (.if_icmp .ne 17, 3) := by decide +kernel
theorem dX6_tourEnd_30 : decode cX6_tourEnd 30 = .ok (.iload_n 3, 1) := by decide +kernel
theorem dX6_tourEnd_31 : decode cX6_tourEnd 31 = .ok (.ifCond .le 9, 3) := by decide +kernel
theorem dX6_tourEnd_34 : decode cX6_tourEnd 34 = .ok (.iload_n 3, 1) := by decide +kernel
theorem dX6_tourEnd_35 : decode cX6_tourEnd 35 = .ok (.iconst 1, 1) := by decide +kernel
theorem dX6_tourEnd_36 : decode cX6_tourEnd 36 = .ok (.isub, 1) := by decide +kernel
theorem dX6_tourEnd_37 : decode cX6_tourEnd 37 = .ok (.goto 6, 3) := by decide +kernel
theorem dX6_tourEnd_40 : decode cX6_tourEnd 40 = .ok (.iload_n 3, 1) := by decide +kernel
theorem dX6_tourEnd_41 : decode cX6_tourEnd 41 = .ok (.iconst 1, 1) := by decide +kernel
theorem dX6_tourEnd_42 : decode cX6_tourEnd 42 = .ok (.iadd, 1) := by decide +kernel
theorem dX6_tourEnd_43 : decode cX6_tourEnd 43 = .ok (.ireturn, 1) := by decide +kernel
theorem dX6_tourEnd_44 : decode cX6_tourEnd 44 = .ok (.iload 5, 2) := by decide +kernel
theorem dX6_tourEnd_46 : decode cX6_tourEnd 46 = .ok (.iload_n 3, 1) := by decide +kernel
theorem dX6_tourEnd_47 : decode cX6_tourEnd 47 = .ok (.isub, 1) := by decide +kernel
theorem dX6_tourEnd_48 : decode cX6_tourEnd 48 = .ok (.iload_n 3, 1) := by decide +kernel
theorem dX6_tourEnd_49 : decode cX6_tourEnd 49 = .ok (.iload 4, 2) := by decide +kernel
theorem dX6_tourEnd_51 : decode cX6_tourEnd 51 = .ok (.isub, 1) := by decide +kernel
theorem dX6_tourEnd_52 : decode cX6_tourEnd 52 = .ok (.if_icmp .gt 8, 3) := by decide +kernel
theorem dX6_tourEnd_55 : decode cX6_tourEnd 55 = .ok (.iload 4, 2) := by decide +kernel
theorem dX6_tourEnd_57 : decode cX6_tourEnd 57 = .ok (.goto 5, 3) := by decide +kernel
theorem dX6_tourEnd_60 : decode cX6_tourEnd 60 = .ok (.iload 5, 2) := by decide +kernel
theorem dX6_tourEnd_62 : decode cX6_tourEnd 62 = .ok (.ireturn, 1) := by decide +kernel
set_option maxHeartbeats 4000000 in
set_option maxRecDepth 100000 in
theorem cJ_tourEnd {μ ν : Mm} {s : Nat} (h : JR μ s ν) {b : Int} (hb : ∃ p, p < (ν.1 0 25).toNat ∧ hasB b p = true) : CtI PC 2 yX6_tourEnd cX6_tourEnd 6 (some .int) [vR 77, vR s, vI b] μ (touM (loF b (fun q => ν.1 15 (4 * q + 3)) (ν.1 0 25).toNat) (hiF b (fun q => ν.1 15 (4 * q + 3)) (ν.1 0 25).toNat) (ν.1 17 29) 1) := by
  refine ct_intro [some (vR 77), some (vR s), some (vI b), none, none, none] RX6 (by decide) rfl XCo rfl (Nat.le_of_ble_eq_true rfl) (fun K hO => ?_)
  have hs := h.ob
  have hnp := h.B.np
  have hnt := h.B.nt
  have hr := h.B.now.rest
  have hlh := lohi_rng (s := b) (dr := (fun q => ν.1 15 (4 * q + 3))) (fun q hq => h.B.per hq (by decide)) (ν.1 0 25).toNat (by omega)
  have hle := lohi_le (b := b) (dr := (fun q => ν.1 15 (4 * q + 3))) (fun q hq => h.B.per hq (by decide)) (ν.1 0 25).toNat (by omega) hb
  generalize hlo : loF b (fun q => ν.1 15 (4 * q + 3)) (ν.1 0 25).toNat = lo at *
  generalize hhi : hiF b (fun q => ν.1 15 (4 * q + 3)) (ν.1 0 25).toNat = hg at *
  refine aw_aload_n hO dX6_tourEnd_0 rfl rfl ?_
  refine aw_getN (f := 0) hO dX6_tourEnd_1 rfl okX7 (by decide) (lw_t1n 153 rfl rfl) hs.1 hs.2.1 rfl rfl ?_
  refine aw_iconst hO dX6_tourEnd_4 rfl ?_
  refine aw_ialdn (N := 98) (i := 0) hO dX6_tourEnd_5 rfl hs.2.2.1 hs.2.2.2 (by decide) rfl (by decide) ?_
  refine aw_cg h.S.sc.1 ?_
  refine aw_istore_n (ls' := [some (vR 77), some (vR s), some (vI b), some (vI (ν.1 17 29)), none, none]) hO dX6_tourEnd_6 rfl (Nat.le_of_ble_eq_true rfl) rfl rfl ?_
  refine aw_aload_n hO dX6_tourEnd_7 rfl rfl ?_
  refine aw_iload_n hO dX6_tourEnd_8 rfl rfl ?_
  refine aw_iload_n hO dX6_tourEnd_9 rfl rfl ?_
  refine aw_callVI (as := [vI (ν.1 17 29), vI b]) (st := []) hO dX6_tourEnd_10 rfl (lw_t4 198 rfl rfl) kX6_lowestDoor (T := TX6) rfl (by decide) rfl (cJ_lowestDoor h.z (fr := (ν.1 17 29)) (b := b) (by omega) (by omega)) (by decide) rfl rfl rfl (Nat.le_of_ble_eq_true rfl) ?_
  refine aw_cg (congrArg (min (ν.1 17 29)) hlo) ?_
  refine aw_istore (ls' := [some (vR 77), some (vR s), some (vI b), some (vI (ν.1 17 29)), some (vI (min (ν.1 17 29) lo)), none]) hO dX6_tourEnd_13 rfl (Nat.le_of_ble_eq_true rfl) rfl rfl ?_
  refine aw_aload_n hO dX6_tourEnd_15 rfl rfl ?_
  refine aw_iload_n hO dX6_tourEnd_16 rfl rfl ?_
  refine aw_iload_n hO dX6_tourEnd_17 rfl rfl ?_
  refine aw_callVI (as := [vI (ν.1 17 29), vI b]) (st := []) hO dX6_tourEnd_18 rfl (lw_t4 204 rfl rfl) kX6_highestDoor (T := TX6) rfl (by decide) rfl (cJ_highestDoor h.z (fr := (ν.1 17 29)) (b := b) (by omega) (by omega)) (by decide) rfl rfl rfl (Nat.le_of_ble_eq_true rfl) ?_
  refine aw_cg (congrArg (max (ν.1 17 29)) hhi) ?_
  refine aw_istore (ls' := [some (vR 77), some (vR s), some (vI b), some (vI (ν.1 17 29)), some (vI (min (ν.1 17 29) lo)), some (vI (max (ν.1 17 29) hg))]) hO dX6_tourEnd_21 rfl (Nat.le_of_ble_eq_true rfl) rfl rfl ?_
  refine aw_iload hO dX6_tourEnd_23 rfl rfl ?_
  refine aw_iload hO dX6_tourEnd_25 rfl rfl ?_
  refine aw_icmp_ne (tgt := 44) hO dX6_tourEnd_27 rfl rfl ⟨by omega, by omega⟩ ⟨by omega, by omega⟩ (fun c27 => ?_) (fun c27 => ?_)
  · refine aw_iload hO dX6_tourEnd_44 rfl rfl ?_
    refine aw_iload_n hO dX6_tourEnd_46 rfl rfl ?_
    refine aw_isub hO dX6_tourEnd_47 rfl ?_
    refine aw_iload_n hO dX6_tourEnd_48 rfl rfl ?_
    refine aw_iload hO dX6_tourEnd_49 rfl rfl ?_
    refine aw_isub hO dX6_tourEnd_51 rfl ?_
    refine aw_icmp_gt (tgt := 60) hO dX6_tourEnd_52 rfl rfl ⟨by omega, by omega⟩ ⟨by omega, by omega⟩ (fun c52 => ?_) (fun c52 => ?_)
    · refine aw_iload hO dX6_tourEnd_60 rfl rfl ?_
      refine aw_iret hO dX6_tourEnd_62 ?_
      exact rI (by unfold touM; (repeat' split) <;> omega)
    · refine aw_iload hO dX6_tourEnd_55 rfl rfl ?_
      refine aw_goto (tgt := 62) hO dX6_tourEnd_57 rfl ?_
      refine aw_iret hO dX6_tourEnd_62 ?_
      exact rI (by unfold touM; (repeat' split) <;> omega)
  · refine aw_iload_n hO dX6_tourEnd_30 rfl rfl ?_
    refine aw_if_le (tgt := 40) hO dX6_tourEnd_31 rfl rfl ⟨by omega, by omega⟩ (fun c31 => ?_) (fun c31 => ?_)
    · refine aw_iload_n hO dX6_tourEnd_40 rfl rfl ?_
      refine aw_iconst hO dX6_tourEnd_41 rfl ?_
      refine aw_iadd hO dX6_tourEnd_42 rfl ?_
      refine aw_iret hO dX6_tourEnd_43 ?_
      exact rI (by unfold touM; (repeat' split) <;> omega)
    · refine aw_iload_n hO dX6_tourEnd_34 rfl rfl ?_
      refine aw_iconst hO dX6_tourEnd_35 rfl ?_
      refine aw_isub hO dX6_tourEnd_36 rfl ?_
      refine aw_goto (tgt := 43) hO dX6_tourEnd_37 rfl ?_
      refine aw_iret hO dX6_tourEnd_43 ?_
      exact rI (by unfold touM; (repeat' split) <;> omega)
