/-! ## the class reads a town (2) -/
/-- a town as the draft has it so far -/
def TMc (m : Mm) (s : Tw) : Prop := (m.1 7 0 = (if s.1.1 = true then 1 else 0) ∧ m.1 7 1 = ((s.2.1.1 : Nat) : Int) ∧ m.1 7 2 = ((s.2.2.1 : Nat) : Int)) ∧ (∀ k, k < 4 → m.1 6 k = s.1.2 k) ∧ (∀ i, i < s.2.1.1 → ∀ k, k < 4 → m.1 6 (4 + 4 * i + k) = s.2.1.2 i k) ∧ ∀ i, i < s.2.2.1 → ∀ k, k < 3 → m.1 6 (28 + 4 * i + k) = s.2.2.2 i k
def cS (k i : Nat) : Prop := tS k i ∨ k = 6 ∨ k = 7
theorem TO.cs {g : Nat → Int} {N : Nat} {μ m : Mm} (h : TO g N μ) (hF : Fr cS μ m) : TO g N m := h.fr (hF.1 1 2 (by unfold cS tS; omega)) (hF.fn (fun i => by unfold cS tS; omega)) (hF.fn (fun i => by unfold cS tS; omega))
/-- clauses of each kind so far -/
def cnK (s : Tw) (k : Nat) : Nat := if k = 0 then (if s.1.1 = true then 1 else 0) else if k = 1 then s.2.1.1 else s.2.2.1
theorem TMc.cn {m : Mm} {s : Tw} (h : TMc m s) {k : Nat} (hk : k < 3) : m.1 7 k = ((cnK s k : Nat) : Int) := by
  have : k = 0 ∨ k = 1 ∨ k = 2 := by omega
  rcases this with rfl | rfl | rfl
  · rw [h.1.1]; unfold cnK; rw [if_pos rfl]; split <;> rfl
  · exact h.1.2.1
  · exact h.1.2.2
theorem mc_all : ∀ k : Fin 3, stV 0 k.val = (([1, 6, 5] : List Int).getD k.val 0) ∧ stV 1 k.val = (([0, 1, 7] : List Int).getD k.val 0) := by decide
theorem nK_4 (k : Nat) : nK k ≤ 4 := by unfold nK; split <;> omega
theorem mc1 {k : Nat} (h : k < 3) : ([1, 6, 5] : List Int).getD k 0 = (([1, 6, 5].getD k 0 : Nat) : Int) := by
  have : k = 0 ∨ k = 1 ∨ k = 2 := by omega
  rcases this with rfl | rfl | rfl <;> rfl
theorem mc6 {k : Nat} (h : k < 3) : [1, 6, 5].getD k 0 ≤ 6 := by
  have : k = 0 ∨ k = 1 ∨ k = 2 := by omega
  rcases this with rfl | rfl | rfl <;> decide
/-- one clause more -/
def addC (s : Tw) (k : Nat) (r : Nat → Int) : Tw := if k = 0 then ((true, r), s.2) else if k = 1 then (s.1, (s.2.1.1 + 1, fuR s.2.1.2 s.2.1.1 r), s.2.2) else (s.1, s.2.1, (s.2.2.1 + 1, fuR s.2.2.2 s.2.2.1 r))
def rowK (s : Tw) (k : Nat) : Nat := if k = 0 then 0 else if k = 1 then 1 + s.2.1.1 else 7 + s.2.2.1
theorem pTc_no {g : Nat → Int} {p : Nat} {s : Tw} (h : ¬ (0 ≤ kdV (g p) ∧ cnK s (kdV (g p)).toNat < [1, 6, 5].getD (kdV (g p)).toNat 0)) : pTc g p s = (p, none) := by
  refine pTc_n (fun q => h ?_) (fun q => h ?_) (fun q => h ?_)
  · have e : kdV (g p) = 0 := by rw [q.1]; rfl
    rw [e]; refine ⟨by decide, ?_⟩
    show cnK s 0 < 1
    unfold cnK; rw [if_pos rfl, q.2]; decide
  · have e : kdV (g p) = 1 := by rw [q.1]; rfl
    rw [e]; exact ⟨by decide, q.2⟩
  · have e : kdV (g p) = 2 := by rw [q.1]; rfl
    rw [e]; exact ⟨by decide, q.2⟩
theorem kd_kap {c : Int} {k : Nat} (h : kdV c = (k : Int)) : k < 3 ∧ c = kap k := by
  unfold kdV at h
  split at h
  · rename_i e; have : k = 0 := by omega
    subst this; exact ⟨by decide, e⟩
  · split at h
    · rename_i e; have : k = 1 := by omega
      subst this; exact ⟨by decide, e⟩
    · split at h
      · rename_i e; have : k = 2 := by omega
        subst this; exact ⟨by decide, e⟩
      · omega
theorem pTc_yes {g : Nat → Int} {p k : Nat} {s : Tw} (hk : kdV (g p) = (k : Int)) (hc : cnK s k < [1, 6, 5].getD k 0) : (∀ q, pIt g (kap k) 4 (sk g (p + 1)) (usR (kap k)) 0 = (q, none) → pTc g p s = (q, none)) ∧ (∀ q r, pIt g (kap k) 4 (sk g (p + 1)) (usR (kap k)) 0 = (q, some r) → pTc g p s = (q, some (addC s k r))) := by
  obtain ⟨h3, hg⟩ := kd_kap hk
  have : k = 0 ∨ k = 1 ∨ k = 2 := by omega
  rcases this with rfl | rfl | rfl
  · have h1 : s.1.1 = false := by
      unfold cnK at hc
      rw [if_pos rfl] at hc
      cases h : s.1.1 with
      | false => rfl
      | true => rw [h] at hc; simp at hc
    exact ⟨fun q e => pTc_sb hg h1 e, fun q r e => pTc_sg hg h1 e⟩
  · exact ⟨fun q e => pTc_pb hg hc e, fun q r e => pTc_pg hg hc e⟩
  · exact ⟨fun q e => pTc_tb hg hc e, fun q r e => pTc_tg hg hc e⟩
/-- the draft behind a clause more -/
theorem TMc.add {m m2 : Mm} {s : Tw} {k : Nat} {r : Nat → Int} (h : TMc m s) (hp6 : s.2.1.1 ≤ 6) (hk : k < 3) (hc : cnK s k < [1, 6, 5].getD k 0) (h7 : m2.1 7 k = ((cnK s k : Nat) : Int) + 1) (h7o : ∀ j, j < 3 → j ≠ k → m2.1 7 j = m.1 7 j) (h6 : ∀ x, x < nK k → m2.1 6 (4 * rowK s k + x) = r x) (h6o : ∀ i, ¬ (4 * rowK s k ≤ i ∧ i < 4 * rowK s k + 4) → m2.1 6 i = m.1 6 i) : TMc m2 (addC s k r) := by
  obtain ⟨⟨a0, a1, a2⟩, b, c, d⟩ := h
  have : k = 0 ∨ k = 1 ∨ k = 2 := by omega
  rcases this with rfl | rfl | rfl
  · have hc0 : cnK s 0 = 0 := by have : cnK s 0 < 1 := hc; omega
    rw [hc0] at h7
    refine ⟨⟨h7, (h7o 1 (by decide) (by decide)).trans a1, (h7o 2 (by decide) (by decide)).trans a2⟩, fun x hx => ?_, fun i hi x hx => ?_, fun i hi x hx => ?_⟩
    · have := h6 x hx
      rw [show 4 * rowK s 0 + x = x by unfold rowK; rw [if_pos rfl]; omega] at this
      exact this
    · rw [h6o _ (by unfold rowK; rw [if_pos rfl]; omega)]; exact c i hi x hx
    · rw [h6o _ (by unfold rowK; rw [if_pos rfl]; omega)]; exact d i hi x hx
  · have hr : rowK s 1 = 1 + s.2.1.1 := rfl
    have hc1 : s.2.1.1 < 6 := hc
    have h71 : m2.1 7 1 = ((s.2.1.1 : Nat) : Int) + 1 := h7
    refine ⟨⟨(h7o 0 (by decide) (by decide)).trans a0, by rw [h71]; rfl, (h7o 2 (by decide) (by decide)).trans a2⟩, fun x hx => ?_, fun i hi x hx => ?_, fun i hi x hx => ?_⟩
    · rw [h6o _ (by rw [hr]; omega)]; exact b x hx
    · show m2.1 6 (4 + 4 * i + x) = fuR s.2.1.2 s.2.1.1 r i x
      have hi2 : i < s.2.1.1 + 1 := hi
      by_cases e : i = s.2.1.1
      · rw [e, fuR_eq]
        have := h6 x hx
        rw [hr, show 4 * (1 + s.2.1.1) + x = 4 + 4 * s.2.1.1 + x by omega] at this
        exact this
      · rw [fuR_ne e, h6o _ (by rw [hr]; omega)]; exact c i (by omega) x hx
    · have hd := d i hi x hx
      rw [h6o _ (by rw [hr]; omega)]; exact hd
  · have hr : rowK s 2 = 7 + s.2.2.1 := rfl
    have hc1 : s.2.2.1 < 5 := hc
    have h72 : m2.1 7 2 = ((s.2.2.1 : Nat) : Int) + 1 := h7
    refine ⟨⟨(h7o 0 (by decide) (by decide)).trans a0, (h7o 1 (by decide) (by decide)).trans a1, by rw [h72]; rfl⟩, fun x hx => ?_, fun i hi x hx => ?_, fun i hi x hx => ?_⟩
    · rw [h6o _ (by rw [hr]; omega)]; exact b x hx
    · have hi1 : i < s.2.1.1 := hi
      rw [h6o _ (by rw [hr]; omega)]; exact c i hi x hx
    · show m2.1 6 (28 + 4 * i + x) = fuR s.2.2.2 s.2.2.1 r i x
      have hi2 : i < s.2.2.1 + 1 := hi
      by_cases e : i = s.2.2.1
      · rw [e, fuR_eq]
        have := h6 x hx
        rw [hr, show 4 * (7 + s.2.2.1) + x = 28 + 4 * s.2.2.1 + x by omega] at this
        exact this
      · rw [fuR_ne e, h6o _ (by rw [hr]; omega)]; exact d i (by omega) x hx
theorem dX10_readClause_0 : decode cX10_readClause 0 = .ok (.aload_n 0, 1) := by decide +kernel
theorem dX10_readClause_1 : decode cX10_readClause 1 = .ok (.getfield 22, 3) := by decide +kernel
theorem dX10_readClause_4 : decode cX10_readClause 4 = .ok (.invokevirtual 59, 3) := by decide +kernel
theorem dX10_readClause_7 : decode cX10_readClause 7 = .ok (.istore_n 1, 1) := by decide +kernel
theorem dX10_readClause_8 : decode cX10_readClause 8 = .ok (.iload_n 1, 1) := by decide +kernel
theorem dX10_readClause_9 : decode cX10_readClause 9 = .ok (.iconst (-1), 1) := by decide +kernel
theorem dX10_readClause_10 : decode cX10_readClause 10 = .ok (.if_icmp .ne 7, 3) := by decide +kernel
theorem dX10_readClause_13 : decode cX10_readClause 13 = .ok (.iconst (-1), 1) := by decide +kernel
theorem dX10_readClause_14 : decode cX10_readClause 14 = .ok (.goto 10, 3) := by decide +kernel
theorem dX10_readClause_17 : decode cX10_readClause 17 = .ok (.ldc 63, 2) := by decide +kernel
theorem dX10_readClause_19 : decode cX10_readClause 19 = .ok (.iload_n 1, 1) := by decide +kernel
theorem dX10_readClause_20 : decode cX10_readClause 20 = .ok (.i2c, 1) := by decide +kernel
theorem dX10_readClause_21 : decode cX10_readClause 21 = .ok (.invokevirtual 65, 3) := by decide +kernel
theorem dX10_readClause_24 : decode cX10_readClause 24 = .ok (.istore_n 2, 1) := by decide +kernel
theorem dX10_readClause_25 : decode cX10_readClause 25 = .ok (.iload_n 2, 1) := by decide +kernel
theorem dX10_readClause_26 : decode cX10_readClause 26 = .ok (.ifCond .lt 26, 3) := by decide +kernel
theorem dX10_readClause_29 : decode cX10_readClause 29 = .ok (.iload_n 2, 1) := by decide +kernel
theorem dX10_readClause_30 : decode cX10_readClause 30 = .ok (.aload_n 0, 1) := by decide +kernel
theorem dX10_readClause_31 : decode cX10_readClause 31 = .ok (.getfield 18, 3) := by decide +kernel
theorem dX10_readClause_34 : decode cX10_readClause 34 = .ok (.arraylength, 1) := by decide +kernel
theorem dX10_readClause_35 : decode cX10_readClause 35 = .ok (.if_icmp .ge 17, 3) := by decide +kernel
theorem dX10_readClause_38 : decode cX10_readClause 38 = .ok (.aload_n 0, 1) := by decide +kernel
theorem dX10_readClause_39 : decode cX10_readClause 39 = .ok (.getfield 18, 3) := by decide +kernel
theorem dX10_readClause_42 : decode cX10_readClause 42 = .ok (.iload_n 2, 1) := by decide +kernel
theorem dX10_readClause_43 : decode cX10_readClause 43 = .ok (.iaload, 1) := by decide +kernel
theorem dX10_readClause_44 : decode cX10_readClause 44 = .ok (.getstatic 71, 3) := by decide +kernel
theorem dX10_readClause_47 : decode cX10_readClause 47 = .ok (.iload_n 2, 1) := by decide +kernel
theorem dX10_readClause_48 : decode cX10_readClause 48 = .ok (.iaload, 1) := by decide +kernel
theorem dX10_readClause_49 : decode cX10_readClause 49 = .ok (.if_icmp .lt 5, 3) := by decide +kernel
theorem dX10_readClause_52 : decode cX10_readClause 52 = .ok (.iconst 0, 1) := by decide +kernel
theorem dX10_readClause_53 : decode cX10_readClause 53 = .ok (.ireturn, 1) := by decide +kernel
theorem dX10_readClause_54 : decode cX10_readClause 54 = .ok (.aload_n 0, 1) := by decide +kernel
theorem dX10_readClause_55 : decode cX10_readClause 55 = .ok (.getfield 22, 3) := by decide +kernel
theorem dX10_readClause_58 : decode cX10_readClause 58 = .ok (.iload_n 1, 1) := by decide +kernel
theorem dX10_readClause_59 : decode cX10_readClause 59 = .ok (.i2c, 1) := by decide +kernel
theorem dX10_readClause_60 : decode cX10_readClause 60 = .ok (.invokevirtual 49, 3) := by decide +kernel
theorem dX10_readClause_63 : decode cX10_readClause 63 = .ok (.pop, 1) := by decide +kernel
theorem dX10_readClause_64 : decode cX10_readClause 64 = .ok (.getstatic 74, 3) := by decide +kernel
theorem dX10_readClause_67 : decode cX10_readClause 67 = .ok (.iload_n 2, 1) := by decide +kernel
theorem dX10_readClause_68 : decode cX10_readClause 68 = .ok (.iaload, 1) := by decide +kernel
theorem dX10_readClause_69 : decode cX10_readClause 69 = .ok (.aload_n 0, 1) := by decide +kernel
theorem dX10_readClause_70 : decode cX10_readClause 70 = .ok (.getfield 18, 3) := by decide +kernel
theorem dX10_readClause_73 : decode cX10_readClause 73 = .ok (.iload_n 2, 1) := by decide +kernel
theorem dX10_readClause_74 : decode cX10_readClause 74 = .ok (.iaload, 1) := by decide +kernel
theorem dX10_readClause_75 : decode cX10_readClause 75 = .ok (.iadd, 1) := by decide +kernel
theorem dX10_readClause_76 : decode cX10_readClause 76 = .ok (.istore_n 3, 1) := by decide +kernel
theorem dX10_readClause_77 : decode cX10_readClause 77 = .ok (.aload_n 0, 1) := by decide +kernel
theorem dX10_readClause_78 : decode cX10_readClause 78 = .ok (.getfield 18, 3) := by decide +kernel
theorem dX10_readClause_81 : decode cX10_readClause 81 = .ok (.iload_n 2, 1) := by decide +kernel
theorem dX10_readClause_82 : decode cX10_readClause 82 = .ok (.dup2, 1) := by decide +kernel
theorem dX10_readClause_83 : decode cX10_readClause 83 = .ok (.iaload, 1) := by decide +kernel
theorem dX10_readClause_84 : decode cX10_readClause 84 = .ok (.iconst 1, 1) := by decide +kernel
theorem dX10_readClause_85 : decode cX10_readClause 85 = .ok (.iadd, 1) := by decide +kernel
theorem dX10_readClause_86 : decode cX10_readClause 86 = .ok (.iastore, 1) := by decide +kernel
theorem dX10_readClause_87 : decode cX10_readClause 87 = .ok (.aload_n 0, 1) := by decide +kernel
theorem dX10_readClause_88 : decode cX10_readClause 88 = .ok (.iload_n 2, 1) := by decide +kernel
theorem dX10_readClause_89 : decode cX10_readClause 89 = .ok (.iload_n 3, 1) := by decide +kernel
theorem dX10_readClause_90 : decode cX10_readClause 90 = .ok (.invokevirtual 32, 3) := by decide +kernel
theorem dX10_readClause_93 : decode cX10_readClause 93 = .ok (.aload_n 0, 1) := by decide +kernel
theorem dX10_readClause_94 : decode cX10_readClause 94 = .ok (.iload_n 2, 1) := by decide +kernel
theorem dX10_readClause_95 : decode cX10_readClause 95 = .ok (.iload_n 3, 1) := by decide +kernel
theorem dX10_readClause_96 : decode cX10_readClause 96 = .ok (.invokevirtual 77, 3) := by decide +kernel
theorem dX10_readClause_99 : decode cX10_readClause 99 = .ok (.ireturn, 1) := by decide +kernel
theorem TMc.fr {m m2 : Mm} {s : Tw} (h : TMc m s) (h6 : m2.1 6 = m.1 6) (h7 : m2.1 7 = m.1 7) : TMc m2 s := by unfold TMc at *; rw [h6, h7]; exact h
set_option maxRecDepth 100000 in
theorem gC_X10_18_4 {Q : Option AV → Mm → Prop} {K : KT} {cc : ByteArray} {nL d : Nat} {ret : Option FieldType} {pc n : Nat} {ls : List (Option AV)} {st : List AV} {μ : Mm} (hO : KOk PC Q K cc RX10 nL d ret) (hd : decode cc pc = .ok (.getfield 18, 3)) (hn : pc + 3 = n) (kk : AW K n ls (vR 7 :: st) μ) : AW K pc ls (vR 4 :: st) μ := aw_get (f := 2) hO hd hn okX10 (by decide) (lw_t1 100 rfl rfl) (by decide) rfl rfl rfl kk
set_option maxHeartbeats 4000000 in
set_option maxRecDepth 100000 in
theorem cT_readClause {μ : Mm} {g : Nat → Int} {N p : Nat} (h : TO g N μ) (ha : μ.1 1 3 = (p : Int)) (haN : p ≤ N) (hsp : sk g p = p) {s : Tw} (hT : TMc μ s) (hp6 : s.2.1.1 ≤ 6) (hcnt : ∀ k, cnK s k ≤ 6) : CtE PC 4 yX10_readClause cX10_readClause 4 (some .boolean) [vR 4] μ (fun b m => Fr cS μ m ∧ (∀ q, pTc g p s = (q, none) → b = 0 ∧ m.1 1 3 = (q : Int)) ∧ (∀ q s', pTc g p s = (q, some s') → b = 1 ∧ m.1 1 3 = (q : Int) ∧ TMc m s')) := by
  refine ct_intro [some (vR 4), none, none, none] RX10 (by decide) rfl XCo rfl (Nat.le_of_ble_eq_true rfl) (fun K hO => ?_)
  have hG := h.G
  have hgr := hG.rng p
  have j24 : ∀ z : Int, z = kdV (g p) → AW K 24 [some (vR 4), some (vI (g p)), none, none] [vI z] μ := by
    intro z hz
    have hzr : -1 ≤ z ∧ z ≤ 2 := by rw [hz]; unfold kdV; (repeat' split) <;> omega
    refine aw_istore_n (ls' := [some (vR 4), some (vI (g p)), some (vI z), none]) hO dX10_readClause_24 rfl (Nat.le_of_ble_eq_true rfl) rfl rfl ?_
    refine aw_iload_n hO dX10_readClause_25 rfl rfl ?_
    refine aw_if_lt (tgt := 52) hO dX10_readClause_26 rfl rfl ⟨by omega, by omega⟩ (fun c26 => ?_) (fun c26 => ?_)
    · refine aw_iconst hO dX10_readClause_52 rfl ?_
      refine aw_zret hO dX10_readClause_53 (Or.inl rfl) ?_
      exact ⟨_, rfl, Fr.rf, fun q e => (by rw [pTc_no (fun q => by have := q.1; omega)] at e; simp only [Prod.mk.injEq, and_true] at e; exact ⟨rfl, by rw [ha, e]⟩), fun q s2 e => (by rw [pTc_no (fun q => by have := q.1; omega)] at e; simp at e)⟩
    · obtain ⟨k, hk⟩ : ∃ k : Nat, z = (k : Int) := ⟨z.toNat, by omega⟩
      subst hk
      obtain ⟨hk3, hkp⟩ := kd_kap hz.symm
      have hmc := mc_all ⟨k, hk3⟩
      dsimp only at hmc
      have hmc1 := mc1 hk3
      have hmc6 := mc6 hk3
      have hcn : cnK s k ≤ 6 := hcnt k
      refine aw_iload_n hO dX10_readClause_29 rfl rfl ?_
      refine aw_aload_n hO dX10_readClause_30 rfl rfl ?_
      refine gC_X10_18_4 hO dX10_readClause_31 rfl ?_
      refine aw_alen (N := 3) hO dX10_readClause_34 rfl (by decide) rfl ?_
      refine aw_cg (show ((3 : Nat) : Int) = 3 from rfl) ?_
      refine aw_icmp_ge (tgt := 52) hO dX10_readClause_35 rfl rfl (inRn (by omega)) (inRlit _) (fun c35 => ?_) (fun c35 => ?_)
      · exact absurd c35 (by omega)
      · refine aw_aload_n hO dX10_readClause_38 rfl rfl ?_
        refine gC_X10_18_4 hO dX10_readClause_39 rfl ?_
        refine aw_iload_n hO dX10_readClause_42 rfl rfl ?_
        refine aw_ialdn (N := 3) (i := k) hO dX10_readClause_43 rfl (by decide) rfl (by decide) rfl (by omega) ?_
        refine aw_cg (hT.cn hk3) ?_
        refine aw_gst (i := 0) hO dX10_readClause_44 rfl (by decide) (lw_t2 222 rfl rfl) ?_
        refine aw_iload_n hO dX10_readClause_47 rfl rfl ?_
        refine aw_tld (i := 0) (j := k) hO dX10_readClause_48 rfl (by decide) rfl (by show _ < 3; omega) (by decide) ?_
        refine aw_cg (hmc.1.trans hmc1) ?_
        refine aw_icmp_lt (tgt := 54) hO dX10_readClause_49 rfl rfl (inRn (by omega)) (inRn (by omega)) (fun c49 => ?_) (fun c49 => ?_)
        · have hck : cnK s k < [1, 6, 5].getD k 0 := by omega
          have hy := pTc_yes (s := s) hz.symm hck
          have hrow : (([0, 1, 7] : List Int).getD k 0) + ((cnK s k : Nat) : Int) = ((rowK s k : Nat) : Int) := by
            have : k = 0 ∨ k = 1 ∨ k = 2 := by omega
            rcases this with rfl | rfl | rfl
            · have : cnK s 0 < 1 := hck
              show (0 : Int) + _ = ((0 : Nat) : Int); omega
            · show (1 : Int) + ((s.2.1.1 : Nat) : Int) = ((1 + s.2.1.1 : Nat) : Int); omega
            · show (7 : Int) + ((s.2.2.1 : Nat) : Int) = ((7 + s.2.2.1 : Nat) : Int); omega
          have hr12 : rowK s k < 12 := by
            have : k = 0 ∨ k = 1 ∨ k = 2 := by omega
            rcases this with rfl | rfl | rfl
            · show (0 : Nat) < 12; decide
            · have : s.2.1.1 < 6 := hck
              show 1 + s.2.1.1 < 12; omega
            · have : s.2.2.1 < 5 := hck
              show 7 + s.2.2.1 < 12; omega
          have hlt := hG.lt (p := p) (by rw [hkp]; unfold kap; (repeat' split) <;> decide)
          have hPN := sk_le hG (p := p + 1) (by omega)
          have hgp := hG.2.1 p hlt
          refine aw_aload_n hO dX10_readClause_54 rfl rfl ?_
          refine gC_X10_22_4 hO dX10_readClause_55 rfl ?_
          refine aw_iload_n hO dX10_readClause_58 rfl rfl ?_
          refine aw_i2c hO dX10_readClause_59 rfl (by omega) (by omega) ?_
          refine aw_callVE (as := [vI (g p)]) (st := []) hO dX10_readClause_60 rfl (lw_t2 224 rfl rfl) kX8_takes (T := TX8) rfl (by decide) rfl (cT_takes h ha haN (c := g p) (by omega) (by omega)) (by decide) rfl rfl rfl (Nat.le_of_ble_eq_true rfl) (fun v1 μ2 hq3 => ?_)
          obtain ⟨e_v1, e_μ2⟩ := hq3
          rw [if_pos rfl] at e_μ2
          have hT1 : TMc μ2 s := hT.fr (by rw [e_μ2]; exact funext fun _ => mst_nk (by decide)) (by rw [e_μ2]; exact funext fun _ => mst_nk (by decide))
          refine aw_pop hO dX10_readClause_63 rfl rfl ?_
          refine aw_gst (i := 1) hO dX10_readClause_64 rfl (by decide) (lw_t2 228 rfl rfl) ?_
          refine aw_iload_n hO dX10_readClause_67 rfl rfl ?_
          refine aw_tld (i := 1) (j := k) hO dX10_readClause_68 rfl (by decide) rfl (by show _ < 3; omega) (by decide) ?_
          refine aw_cg hmc.2 ?_
          refine aw_aload_n hO dX10_readClause_69 rfl rfl ?_
          refine gC_X10_18_4 hO dX10_readClause_70 rfl ?_
          refine aw_iload_n hO dX10_readClause_73 rfl rfl ?_
          refine aw_ialdn (N := 3) (i := k) hO dX10_readClause_74 rfl (by decide) rfl (by decide) rfl (by omega) ?_
          refine aw_cg (hT1.cn hk3) ?_
          refine aw_iadd hO dX10_readClause_75 rfl ?_
          refine aw_cg (show (([0, 1, 7] : List Int).getD k 0) + ((cnK s k : Nat) : Int) = ((rowK s k : Nat) : Int) from hrow) ?_
          refine aw_istore_n (ls' := [some (vR 4), some (vI (g p)), some (vI ((k : Nat) : Int)), some (vI (((rowK s k) : Nat) : Int))]) hO dX10_readClause_76 rfl (Nat.le_of_ble_eq_true rfl) rfl rfl ?_
          refine aw_aload_n hO dX10_readClause_77 rfl rfl ?_
          refine gC_X10_18_4 hO dX10_readClause_78 rfl ?_
          refine aw_iload_n hO dX10_readClause_81 rfl rfl ?_
          refine aw_dup2 hO dX10_readClause_82 rfl rfl rfl ?_
          refine aw_ialdn (N := 3) (i := k) hO dX10_readClause_83 rfl (by decide) rfl (by decide) rfl (by omega) ?_
          refine aw_cg (hT1.cn hk3) ?_
          refine aw_iconst hO dX10_readClause_84 rfl ?_
          refine aw_iadd hO dX10_readClause_85 rfl ?_
          refine aw_iastn (N := 3) (i := k) hO dX10_readClause_86 rfl (by decide) rfl (by decide) rfl (by omega) ?_
          refine aw_mm (fun μ4 e_μ4 => ?_)
          refine aw_aload_n hO dX10_readClause_87 rfl rfl ?_
          refine aw_iload_n hO dX10_readClause_88 rfl rfl ?_
          refine aw_iload_n hO dX10_readClause_89 rfl rfl ?_
          refine aw_callVV (as := [vI ((k : Nat) : Int), vI (((rowK s k) : Nat) : Int)]) (st := []) hO dX10_readClause_90 rfl (lw_t2 123 rfl rfl) kX10_startRow (T := TX10) rfl (by decide) rfl (cT_startRow μ4 (k := k) (r := rowK s k) hk3 hr12) (by decide) rfl rfl rfl (Nat.le_of_ble_eq_true rfl) (fun μ6 hq7 => ?_)
          have e_μ6 := hq7
          have hTO : TO g N μ6 := (h.st (i := 3) (by decide) ((sk g (p + 1) : Nat) : Int)).fr (by rw [e_μ6, mtb_nk (by decide), e_μ4, mst_nk (by decide), e_μ2]) (by rw [e_μ6]; exact funext fun _ => (mtb_nk (by decide)).trans (by rw [e_μ4, mst_nk (by decide), e_μ2])) (by rw [e_μ6]; exact funext fun _ => (mtb_nk (by decide)).trans (by rw [e_μ4, mst_nk (by decide), e_μ2]))
          have hpl : μ6.1 1 3 = ((sk g (p + 1) : Nat) : Int) := by rw [e_μ6, mtb_nk (by decide), e_μ4, mst_nk (by decide), e_μ2, mst_eq]
          have hus : ∀ x, x < nK k → μ6.1 6 (4 * rowK s k + x) = usR (kap k) x := fun x hx => by
            have h4 : x < 4 := Nat.lt_of_lt_of_le hx (nK_4 k)
            rw [e_μ6, mtb_in (by omega) (by omega), show 4 * k + (4 * rowK s k + x - 4 * rowK s k) = 4 * k + x by omega]; exact (lohi_all ⟨k, hk3⟩ ⟨x, h4⟩ hx).2.2
          refine aw_aload_n hO dX10_readClause_93 rfl rfl ?_
          refine aw_iload_n hO dX10_readClause_94 rfl rfl ?_
          refine aw_iload_n hO dX10_readClause_95 rfl rfl ?_
          refine aw_callVE (as := [vI ((k : Nat) : Int), vI (((rowK s k) : Nat) : Int)]) (st := []) hO dX10_readClause_96 rfl (lw_t2 230 rfl rfl) kX10_readItems (T := TX10) rfl (by decide) rfl (cT_readItems hTO hpl hPN (sk_sk hG _) (k := k) (r := rowK s k) (r0 := usR (kap k)) hk3 hr12 hus) (by decide) rfl rfl rfl (Nat.le_of_ble_eq_true rfl) (fun v8 μ9 hq10 => ?_)
          obtain ⟨hFi, hI1, hI2⟩ := hq10
          have hbz : v8 = 0 ∨ v8 = 1 := by
            rcases hx : pIt g (kap k) 4 (sk g (p + 1)) (usR (kap k)) 0 with ⟨iq, _ | ir⟩
            · exact Or.inl (hI1 iq hx).1
            · exact Or.inr (hI2 iq ir hx).1
          refine aw_zret hO dX10_readClause_99 hbz ?_
          have hF9 : Fr cS μ μ9 := by
            have q1 : Fr cS μ μ2 := by rw [e_μ2]; exact Fr.rf.st (Or.inl ⟨rfl, Or.inl rfl⟩) _
            have q2 : Fr cS μ μ4 := by rw [e_μ4]; exact q1.st (Or.inr (Or.inr rfl)) _
            have q3 : Fr cS μ μ6 := by rw [e_μ6]; exact ⟨fun kk ii hn => (mtb_nk (fun e => hn (Or.inr (Or.inl e)))).trans (q2.1 kk ii hn), q2.2⟩
            exact q3.tr (hFi.mono (fun kk ii e => by unfold iS at e; unfold cS; rcases e with e | e; exact Or.inl e; exact Or.inr (Or.inl e.1)))
          have hb7 : ∀ j, μ9.1 7 j = (if j = k then ((cnK s k : Nat) : Int) + 1 else μ.1 7 j) := fun j => by
            rw [hFi.1 7 j (by unfold iS tS; omega), e_μ6, mtb_nk (by decide), e_μ4]
            by_cases e : j = k
            · rw [if_pos e, e, mst_eq]
            · rw [if_neg e, mst_ni e, e_μ2, mst_nk (by decide)]
          have hb6 : ∀ j, ¬ (4 * rowK s k ≤ j ∧ j < 4 * rowK s k + 4) → μ9.1 6 j = μ.1 6 j := fun j hj => by rw [hFi.1 6 j (by unfold iS tS; omega), e_μ6, mtb_out (by omega), e_μ4, mst_nk (by decide), e_μ2, mst_nk (by decide)]
          obtain ⟨iq, ir, hir⟩ : ∃ iq ir, pIt g (kap k) 4 (sk g (p + 1)) (usR (kap k)) 0 = (iq, ir) := ⟨_, _, rfl⟩
          cases ir with
          | none =>
            have h1 := hI1 iq hir
            exact ⟨_, rfl, hF9, fun q e => (by rw [hy.1 iq hir] at e; simp only [Prod.mk.injEq, and_true] at e; rw [← e]; exact h1), fun q s2 e => (by rw [hy.1 iq hir] at e; simp at e)⟩
          | some ir =>
            have h1 := hI2 iq ir hir
            exact ⟨_, rfl, hF9, fun q e => (by rw [hy.2 iq ir hir] at e; simp at e), fun q s2 e => (by rw [hy.2 iq ir hir] at e; simp only [Prod.mk.injEq, Option.some.injEq] at e; obtain ⟨rfl, rfl⟩ := e; exact ⟨h1.1, h1.2.1, hT.add hp6 hk3 hck (by rw [hb7, if_pos rfl]) (fun j _ hj => by rw [hb7, if_neg hj]) h1.2.2 hb6⟩)⟩
        · refine aw_iconst hO dX10_readClause_52 rfl ?_
          refine aw_zret hO dX10_readClause_53 (Or.inl rfl) ?_
          exact ⟨_, rfl, Fr.rf, fun q e => (by rw [pTc_no (fun q => by have q2 := q.2; rw [← hz, Int.toNat_natCast] at q2; omega)] at e; simp only [Prod.mk.injEq, and_true] at e; exact ⟨rfl, by rw [ha, e]⟩), fun q s2 e => (by rw [pTc_no (fun q => by have q2 := q.2; rw [← hz, Int.toNat_natCast] at q2; omega)] at e; simp at e)⟩
  refine aw_aload_n hO dX10_readClause_0 rfl rfl ?_
  refine gC_X10_22_4 hO dX10_readClause_1 rfl ?_
  refine aw_callVI (as := []) (st := []) hO dX10_readClause_4 rfl (lw_t2 140 rfl rfl) kX8_sign (T := TX8) rfl (by decide) rfl (cT_sign h.1 ha haN) (by decide) rfl rfl rfl (Nat.le_of_ble_eq_true rfl) ?_
  refine aw_istore_n (ls' := [some (vR 4), some (vI (g p)), none, none]) hO dX10_readClause_7 rfl (Nat.le_of_ble_eq_true rfl) rfl rfl ?_
  refine aw_iload_n hO dX10_readClause_8 rfl rfl ?_
  refine aw_iconst hO dX10_readClause_9 rfl ?_
  refine aw_icmp_ne (tgt := 17) hO dX10_readClause_10 rfl rfl ⟨by omega, by omega⟩ (inRlit _) (fun c10 => ?_) (fun c10 => ?_)
  · refine aw_ldcS (i := 0) (ix := 63) (tx := "spt") hO dX10_readClause_17 rfl (fun q A U h => h.2.1.1) ?_
    refine aw_stq (st' := [vR 92]) rfl ?_
    refine aw_iload_n hO dX10_readClause_19 rfl rfl ?_
    refine aw_i2c hO dX10_readClause_20 rfl (by omega) (by omega) ?_
    refine aw_callVOI (as := [vI (g p)]) (st := []) hO dX10_readClause_21 rfl (lw_t2 145 rfl rfl) kJ0_indexOf_0f7a4 (by decide : 0 < 2) rfl (ctC_kind μ (c := g p) (by omega) (by omega)) (by decide) rfl rfl rfl (Nat.le_of_ble_eq_true rfl) ?_
    exact j24 _ rfl
  · refine aw_iconst hO dX10_readClause_13 rfl ?_
    refine aw_goto (tgt := 24) hO dX10_readClause_14 rfl ?_
    exact j24 _ (show (-1 : Int) = kdV (g p) by rw [c10]; rfl)
