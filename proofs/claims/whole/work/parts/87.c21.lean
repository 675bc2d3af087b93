/-! ## the class reads a law (2): sums -/
def opT (sep : Int → Option Int) (c : Int) : List Tok := match sep c with
  | none => []
  | some op => [(op, 0)]
theorem opT_n {sep : Int → Option Int} {c : Int} (h : sep c = none) : opT sep c = [] := by unfold opT; rw [h]
theorem opT_s {sep : Int → Option Int} {c op : Int} (h : sep c = some op) : opT sep c = [(op, 0)] := by unfold opT; rw [h]
/-- an item, then what goes on behind it; a sign s waits -/
def cont (g : Nat → Int) (item : Nat → PR) (sep : Int → Option Int) (f p : Nat) (C : List Tok) (s : Int) : PR := match item p with
  | (q, none) => (q, none)
  | (q, some c2) => rest g item sep f q (C ++ (c2 ++ opT sep s))
theorem cont_b {g : Nat → Int} {item : Nat → PR} {sep : Int → Option Int} {f p q : Nat} {C : List Tok} {s : Int} (h : item p = (q, none)) : cont g item sep f p C s = (q, none) := by unfold cont; rw [h]
theorem cont_g {g : Nat → Int} {item : Nat → PR} {sep : Int → Option Int} {f p q : Nat} {C c2 : List Tok} {s : Int} (h : item p = (q, some c2)) : cont g item sep f p C s = rest g item sep f q (C ++ (c2 ++ opT sep s)) := by unfold cont; rw [h]
theorem cont_0 {g : Nat → Int} {item : Nat → PR} {sep : Int → Option Int} {p : Nat} {s : Int} (h : sep s = none) : cont g item sep 241 p [] s = chn g item sep p := by
  unfold cont chn
  rw [opT_n h]
  rcases item p with ⟨q, _ | c⟩
  · rfl
  · simp only [List.append_nil, List.nil_append]
theorem cont_st {g : Nat → Int} {item : Nat → PR} {sep : Int → Option Int} {f q : Nat} {C : List Tok} {op : Int} (h : sep (g q) = some op) : rest g item sep (f + 1) q C = cont g item sep f (sk g (q + 1)) C (g q) := by
  rw [rest]
  simp only [h]
  unfold cont
  rw [opT_s h]
  rcases item (sk g (q + 1)) with ⟨q2, _ | c⟩ <;> rfl
/-- a sign and its token -/
def SgOk (sep : Int → Option Int) : Prop := sep (-1) = none ∧ ∀ c op, sep c = some op → enc (op, 0) = 11000 + c ∧ c ≠ -1 ∧ 1 ≤ c ∧ c ≤ 255
theorem sgM : SgOk sepM := ⟨rfl, fun c op h => by
  unfold sepM at h
  split at h
  · rename_i e; cases h; subst e; decide
  · split at h
    · rename_i e; cases h; subst e; decide
    · cases h⟩
theorem sgA : SgOk sepA := ⟨rfl, fun c op h => by
  unfold sepA at h
  split at h
  · rename_i e; cases h; subst e; decide
  · split at h
    · rename_i e; cases h; subst e; decide
    · cases h⟩
theorem sgR : SgOk sepR := ⟨rfl, fun c op h => by
  unfold sepR at h
  split at h
  · rename_i e; cases h; subst e; decide
  · split at h
    · rename_i e; cases h; subst e; decide
    · split at h
      · rename_i e; cases h; subst e; decide
      · cases h⟩
theorem sgN : SgOk sepN := ⟨rfl, fun c op h => by
  unfold sepN at h
  split at h
  · rename_i e; cases h; subst e; decide
  · cases h⟩
theorem sgO : SgOk sepO := ⟨rfl, fun c op h => by
  unfold sepO at h
  split at h
  · rename_i e; cases h; subst e; decide
  · cases h⟩
theorem LG.so {sep : Int → Option Int} (hs : SgOk sep) {g : Nat → Int} {N p : Nat} {μ m : Mm} {X : List Int} {s : Int} (h : LG g N μ m p X) (hw : s = -1 ∨ ∃ op, sep s = some op) (hX : X.length + (opT sep s).length ≤ 240) : LG g N μ (addSg m s) p (X ++ (opT sep s).map enc) := by
  rcases hw with e | ⟨op, e⟩
  · subst e
    rw [opT_n hs.1, List.map_nil, List.append_nil]
    unfold addSg
    rw [if_pos rfl]
    exact h
  · rw [opT_s e] at hX ⊢
    have := h.sg (by simp at hX; omega) (hs.2 s op e).2.1
    rw [List.map_cons, List.map_nil, (hs.2 s op e).1]
    exact this
theorem opT_1 (sep : Int → Option Int) (s : Int) : (opT sep s).length ≤ 1 := by unfold opT; split <;> simp
def GQ (S : (Nat → Int) → Nat → PR) : Prop := ∀ g N, Gok g N → PGd g N (fun _ => True) (S g)
theorem GQ.chn {S : (Nat → Int) → Nat → PR} (h : GQ S) {sep : Int → Option Int} (hs : sep (-1) = none) : GQ (fun g => chn g (S g) sep) := fun g N hG => chn_G hG (h g N hG) hs (fun _ _ => trivial) (fun _ _ _ _ _ _ _ => trivial)
theorem dX5_readSum_0 : decode cX5_readSum 0 = .ok (.iconst (-1), 1) := by decide +kernel
theorem dX5_readSum_1 : decode cX5_readSum 1 = .ok (.istore_n 2, 1) := by decide +kernel
theorem dX5_readSum_2 : decode cX5_readSum 2 = .ok (.iconst 0, 1) := by decide +kernel
theorem dX5_readSum_3 : decode cX5_readSum 3 = .ok (.istore_n 3, 1) := by decide +kernel
theorem dX5_readSum_4 : decode cX5_readSum 4 = .ok (.iload_n 3, 1) := by decide +kernel
theorem dX5_readSum_5 : decode cX5_readSum 5 = .ok (.sipush 240, 3) := by decide +kernel
theorem dX5_readSum_8 : decode cX5_readSum 8 = .ok (.if_icmp .ge 125, 3) := by decide +kernel
theorem dX5_readSum_11 : decode cX5_readSum 11 = .ok (.iconst (-1), 1) := by decide +kernel
theorem dX5_readSum_12 : decode cX5_readSum 12 = .ok (.istore 4, 2) := by decide +kernel
theorem dX5_readSum_14 : decode cX5_readSum 14 = .ok (.iconst 0, 1) := by decide +kernel
theorem dX5_readSum_15 : decode cX5_readSum 15 = .ok (.istore 5, 2) := by decide +kernel
theorem dX5_readSum_17 : decode cX5_readSum 17 = .ok (.iload 5, 2) := by decide +kernel
theorem dX5_readSum_19 : decode cX5_readSum 19 = .ok (.sipush 240, 3) := by decide +kernel
theorem dX5_readSum_22 : decode cX5_readSum 22 = .ok (.if_icmp .ge 65, 3) := by decide +kernel
theorem dX5_readSum_25 : decode cX5_readSum 25 = .ok (.aload_n 0, 1) := by decide +kernel
theorem dX5_readSum_26 : decode cX5_readSum 26 = .ok (.iload_n 1, 1) := by decide +kernel
theorem dX5_readSum_27 : decode cX5_readSum 27 = .ok (.invokevirtual 70, 3) := by decide +kernel
theorem dX5_readSum_30 : decode cX5_readSum 30 = .ok (.ifCond .ne 5, 3) := by decide +kernel
theorem dX5_readSum_33 : decode cX5_readSum 33 = .ok (.iconst 0, 1) := by decide +kernel
theorem dX5_readSum_34 : decode cX5_readSum 34 = .ok (.ireturn, 1) := by decide +kernel
theorem dX5_readSum_35 : decode cX5_readSum 35 = .ok (.aload_n 0, 1) := by decide +kernel
theorem dX5_readSum_36 : decode cX5_readSum 36 = .ok (.getfield 12, 3) := by decide +kernel
theorem dX5_readSum_39 : decode cX5_readSum 39 = .ok (.iload 4, 2) := by decide +kernel
theorem dX5_readSum_41 : decode cX5_readSum 41 = .ok (.invokevirtual 67, 3) := by decide +kernel
theorem dX5_readSum_44 : decode cX5_readSum 44 = .ok (.aload_n 0, 1) := by decide +kernel
theorem dX5_readSum_45 : decode cX5_readSum 45 = .ok (.getfield 18, 3) := by decide +kernel
theorem dX5_readSum_48 : decode cX5_readSum 48 = .ok (.invokevirtual 42, 3) := by decide +kernel
theorem dX5_readSum_51 : decode cX5_readSum 51 = .ok (.istore 4, 2) := by decide +kernel
theorem dX5_readSum_53 : decode cX5_readSum 53 = .ok (.iload 4, 2) := by decide +kernel
theorem dX5_readSum_55 : decode cX5_readSum 55 = .ok (.bipush 42, 2) := by decide +kernel
theorem dX5_readSum_57 : decode cX5_readSum 57 = .ok (.if_icmp .eq 13, 3) := by decide +kernel
theorem dX5_readSum_60 : decode cX5_readSum 60 = .ok (.iload 4, 2) := by decide +kernel
theorem dX5_readSum_62 : decode cX5_readSum 62 = .ok (.bipush 47, 2) := by decide +kernel
theorem dX5_readSum_64 : decode cX5_readSum 64 = .ok (.if_icmp .eq 6, 3) := by decide +kernel
theorem dX5_readSum_67 : decode cX5_readSum 67 = .ok (.goto 20, 3) := by decide +kernel
theorem dX5_readSum_70 : decode cX5_readSum 70 = .ok (.aload_n 0, 1) := by decide +kernel
theorem dX5_readSum_71 : decode cX5_readSum 71 = .ok (.getfield 18, 3) := by decide +kernel
theorem dX5_readSum_74 : decode cX5_readSum 74 = .ok (.iload 4, 2) := by decide +kernel
theorem dX5_readSum_76 : decode cX5_readSum 76 = .ok (.i2c, 1) := by decide +kernel
theorem dX5_readSum_77 : decode cX5_readSum 77 = .ok (.invokevirtual 38, 3) := by decide +kernel
theorem dX5_readSum_80 : decode cX5_readSum 80 = .ok (.pop, 1) := by decide +kernel
theorem dX5_readSum_81 : decode cX5_readSum 81 = .ok (.iinc 5 1, 3) := by decide +kernel
theorem dX5_readSum_84 : decode cX5_readSum 84 = .ok (.goto (-67), 3) := by decide +kernel
theorem dX5_readSum_87 : decode cX5_readSum 87 = .ok (.aload_n 0, 1) := by decide +kernel
theorem dX5_readSum_88 : decode cX5_readSum 88 = .ok (.getfield 12, 3) := by decide +kernel
theorem dX5_readSum_91 : decode cX5_readSum 91 = .ok (.iload_n 2, 1) := by decide +kernel
theorem dX5_readSum_92 : decode cX5_readSum 92 = .ok (.invokevirtual 67, 3) := by decide +kernel
theorem dX5_readSum_95 : decode cX5_readSum 95 = .ok (.aload_n 0, 1) := by decide +kernel
theorem dX5_readSum_96 : decode cX5_readSum 96 = .ok (.getfield 18, 3) := by decide +kernel
theorem dX5_readSum_99 : decode cX5_readSum 99 = .ok (.invokevirtual 42, 3) := by decide +kernel
theorem dX5_readSum_102 : decode cX5_readSum 102 = .ok (.istore_n 2, 1) := by decide +kernel
theorem dX5_readSum_103 : decode cX5_readSum 103 = .ok (.iload_n 2, 1) := by decide +kernel
theorem dX5_readSum_104 : decode cX5_readSum 104 = .ok (.bipush 43, 2) := by decide +kernel
theorem dX5_readSum_106 : decode cX5_readSum 106 = .ok (.if_icmp .eq 11, 3) := by decide +kernel
theorem dX5_readSum_109 : decode cX5_readSum 109 = .ok (.iload_n 2, 1) := by decide +kernel
theorem dX5_readSum_110 : decode cX5_readSum 110 = .ok (.bipush 45, 2) := by decide +kernel
theorem dX5_readSum_112 : decode cX5_readSum 112 = .ok (.if_icmp .eq 5, 3) := by decide +kernel
theorem dX5_readSum_115 : decode cX5_readSum 115 = .ok (.iconst 1, 1) := by decide +kernel
theorem dX5_readSum_116 : decode cX5_readSum 116 = .ok (.ireturn, 1) := by decide +kernel
theorem dX5_readSum_117 : decode cX5_readSum 117 = .ok (.aload_n 0, 1) := by decide +kernel
theorem dX5_readSum_118 : decode cX5_readSum 118 = .ok (.getfield 18, 3) := by decide +kernel
theorem dX5_readSum_121 : decode cX5_readSum 121 = .ok (.iload_n 2, 1) := by decide +kernel
theorem dX5_readSum_122 : decode cX5_readSum 122 = .ok (.i2c, 1) := by decide +kernel
theorem dX5_readSum_123 : decode cX5_readSum 123 = .ok (.invokevirtual 38, 3) := by decide +kernel
theorem dX5_readSum_126 : decode cX5_readSum 126 = .ok (.pop, 1) := by decide +kernel
theorem dX5_readSum_127 : decode cX5_readSum 127 = .ok (.iinc 3 1, 3) := by decide +kernel
theorem dX5_readSum_130 : decode cX5_readSum 130 = .ok (.goto (-126), 3) := by decide +kernel
theorem dX5_readSum_133 : decode cX5_readSum 133 = .ok (.iconst 0, 1) := by decide +kernel
theorem dX5_readSum_134 : decode cX5_readSum 134 = .ok (.ireturn, 1) := by decide +kernel
set_option maxHeartbeats 4000000 in
set_option maxRecDepth 100000 in
theorem cT_readSum0 {d D : Nat} {A : (Nat → Int) → Nat → PR} (hD : 2 ≤ D) (hGA : GQ A) (hA : CR D yX5_readAtom cX5_readAtom 5 [vR 8, vI ((d : Nat) : Int)] A) : CR (D + 1) yX5_readSum cX5_readSum 6 [vR 8, vI ((d : Nat) : Int)] (fun g => chn g (chn g (A g) sepM) sepA) := by
  intro μ g N p X h ha haN hsp hX hXp
  refine ct_intro [some (vR 8), some (vI ((d : Nat) : Int)), none, none, none, none] RX5 (by decide) rfl XCo rfl (Nat.le_of_ble_eq_true rfl) (fun K hO => ?_)
  have hG := h.G
  have hN := hG.1
  have hgA := hGA g N hG
  have hgT := hGA.chn sgM.1 g N hG
  have inn : ∀ (tr : PR) (X0 : List Int) (j : Int) (t : Nat), (∀ q m, tr = (q, none) → LB g N μ m q → RO g N μ X (chn g (chn g (A g) sepM) sepA p) 0 m) → (∀ q c m, tr = (q, some c) → q ≤ N → sk g q = q → X0.length + c.length ≤ q → LG g N μ m q (X0 ++ c.map enc) → AW K 87 [some (vR 8), some (vI ((d : Nat) : Int)), some (vI j), some (vI ((t : Nat) : Int)), none, none] [] m) → ∀ (f p2 a : Nat) (s : Int) (C : List Tok) (m : Mm), 2 * a ≤ p2 → p2 ≤ N → N < p2 + f → sk g p2 = p2 → (s = -1 ∨ ∃ op, sepM s = some op) → X0.length + C.length + (opT sepM s).length ≤ p2 → LG g N μ m p2 (X0 ++ C.map enc) → cont g (A g) sepM f p2 C s = tr → AW K 17 [some (vR 8), some (vI ((d : Nat) : Int)), some (vI j), some (vI ((t : Nat) : Int)), some (vI s), some (vI ((a : Nat) : Int))] [] m := by
    intro tr X0 j t kf k87 f
    induction f with
    | zero => intro p2 a s C m _ h1 h2; omega
    | succ f ih =>
      intro p2 a s C m ha2 hpN hf hsk hs hlen hL hc
      have hsr : InR s := by
        rcases hs with e | ⟨op, e⟩
        · subst e; exact inRlit _
        · have := sgM.2 s op e; exact ⟨by omega, by omega⟩
      refine aw_iload hO dX5_readSum_17 rfl rfl ?_
      refine aw_sipush hO dX5_readSum_19 rfl (by decide) (by decide) ?_
      refine aw_icmp_ge (tgt := 87) hO dX5_readSum_22 rfl rfl (inRn (by omega)) (inRlit _) (fun c22 => ?_) (fun c22 => ?_)
      · exact absurd c22 (by omega)
      · refine aw_aload_n hO dX5_readSum_25 rfl rfl ?_
        refine aw_iload_n hO dX5_readSum_26 rfl rfl ?_
        refine aw_callVE (as := [vI ((d : Nat) : Int)]) (st := []) hO dX5_readSum_27 rfl (lw_t3 22 rfl rfl) kX5_readAtom (T := TX5) rfl (by decide) rfl (hA m g N p2 _ hL.2.1 hL.2.2.1 hpN hsk hL.2.2.2 (by rw [List.length_append, List.length_map]; omega)) (by omega) rfl rfl rfl (Nat.le_of_ble_eq_true rfl) (fun v1 μ2 hq3 => ?_)
        have hR := RO.tr hq3 hL.1
        have hvz := hR.z
        refine aw_if_ne (tgt := 35) hO dX5_readSum_30 rfl rfl ⟨by omega, by omega⟩ (fun c30 => ?_) (fun c30 => ?_)
        · obtain ⟨q, c2, hq, hL1⟩ := hR.yes c30
          obtain ⟨hq1, hq2, hq3, hq4, -⟩ := (hgA p2 hpN).2 q c2 hq
          rw [cont_g hq] at hc
          have ho1 := opT_1 sepM s
          have hgr := hG.rng q
          refine aw_aload_n hO dX5_readSum_35 rfl rfl ?_
          refine gC_X5_12_8 hO dX5_readSum_36 rfl ?_
          refine aw_iload hO dX5_readSum_39 rfl rfl ?_
          refine aw_callVV (as := [vI s]) (st := []) hO dX5_readSum_41 rfl (lw_t3 33 rfl rfl) kX4_addSign (T := TX4) rfl (by decide) rfl (cT_addSign (hL1.2.2.2.B (by simp only [List.length_append, List.length_map]; omega)) (c := s) hsr) (by omega) rfl rfl rfl (Nat.le_of_ble_eq_true rfl) (fun μ5 hq6 => ?_)
          have e_μ5 := hq6
          have hL2 : LG g N μ μ5 q (X0 ++ (C ++ (c2 ++ opT sepM s)).map enc) := by
            rw [e_μ5]
            have := hL1.so sgM hs (by simp only [List.length_append, List.length_map]; omega)
            simpa only [List.map_append, List.append_assoc] using this
          refine aw_aload_n hO dX5_readSum_44 rfl rfl ?_
          refine gC_X5_18_8 hO dX5_readSum_45 rfl ?_
          refine aw_callVI (as := []) (st := []) hO dX5_readSum_48 rfl (lw_t3 17 rfl rfl) kX8_sign (T := TX8) rfl (by decide) rfl (cT_sign hL2.2.1.1 hL2.2.2.1 hq2) (by omega) rfl rfl rfl (Nat.le_of_ble_eq_true rfl) ?_
          refine aw_istore (ls' := [some (vR 8), some (vI ((d : Nat) : Int)), some (vI j), some (vI ((t : Nat) : Int)), some (vI (g q)), some (vI ((a : Nat) : Int))]) hO dX5_readSum_51 rfl (Nat.le_of_ble_eq_true rfl) rfl rfl ?_
          refine aw_iload hO dX5_readSum_53 rfl rfl ?_
          refine aw_bipush hO dX5_readSum_55 rfl (by decide) (by decide) ?_
          refine aw_icmp_eq (tgt := 70) hO dX5_readSum_57 rfl rfl ⟨by omega, by omega⟩ (inRlit _) (fun c57 => ?_) (fun c57 => ?_)
          · refine aw_aload_n hO dX5_readSum_70 rfl rfl ?_
            refine gC_X5_18_8 hO dX5_readSum_71 rfl ?_
            refine aw_iload hO dX5_readSum_74 rfl rfl ?_
            refine aw_i2c hO dX5_readSum_76 rfl (by omega) (by omega) ?_
            refine aw_callVE (as := [vI (g q)]) (st := []) hO dX5_readSum_77 rfl (lw_t3 16 rfl rfl) kX8_takes (T := TX8) rfl (by decide) rfl (cT_takes hL2.2.1 hL2.2.2.1 hq2 (c := g q) (by omega) (by omega)) (by omega) rfl rfl rfl (Nat.le_of_ble_eq_true rfl) (fun v7 μ8 hq9 => ?_)
            obtain ⟨e_v7, e_μ8⟩ := hq9
            rw [if_pos rfl] at e_μ8
            refine aw_pop hO dX5_readSum_80 rfl rfl ?_
            refine aw_iinc (ls' := [some (vR 8), some (vI ((d : Nat) : Int)), some (vI j), some (vI ((t : Nat) : Int)), some (vI (g q)), some (vI (((a : Nat) : Int) + 1))]) hO dX5_readSum_81 rfl rfl rfl rfl ?_
            refine aw_lsq (ls' := [some (vR 8), some (vI ((d : Nat) : Int)), some (vI j), some (vI ((t : Nat) : Int)), some (vI (g q)), some (vI (((a + 1) : Nat) : Int))]) rfl ?_
            refine aw_goto (tgt := 17) hO dX5_readSum_84 rfl ?_
            refine aw_lsq (ls' := [some (vR 8), some (vI ((d : Nat) : Int)), some (vI j), some (vI ((t : Nat) : Int)), some (vI (g q)), some (vI ((a + 1 : Nat) : Int))]) rfl ?_
            obtain ⟨op, hop⟩ : ∃ op, sepM (g q) = some op := ⟨4, show sepM (g q) = some 4 by unfold sepM; rw [if_pos c57]⟩
            have hlt := hG.lt (p := q) (by have := sgM.2 _ op hop; omega)
            have hs1 := sk_ge g (q + 1)
            have hs2 := sk_le hG (p := q + 1) (by omega)
            exact ih (sk g (q + 1)) (a + 1) (g q) (C ++ (c2 ++ opT sepM s)) μ8 (by omega) hs2 (by omega) (sk_sk hG _) (Or.inr ⟨op, hop⟩) (by rw [opT_s hop]; simp only [List.length_append, List.length_cons, List.length_nil]; omega) (by rw [e_μ8]; exact hL2.tk) (by rw [cont_st hop] at hc; exact hc)
          · refine aw_iload hO dX5_readSum_60 rfl rfl ?_
            refine aw_bipush hO dX5_readSum_62 rfl (by decide) (by decide) ?_
            refine aw_icmp_eq (tgt := 70) hO dX5_readSum_64 rfl rfl ⟨by omega, by omega⟩ (inRlit _) (fun c64 => ?_) (fun c64 => ?_)
            · refine aw_aload_n hO dX5_readSum_70 rfl rfl ?_
              refine gC_X5_18_8 hO dX5_readSum_71 rfl ?_
              refine aw_iload hO dX5_readSum_74 rfl rfl ?_
              refine aw_i2c hO dX5_readSum_76 rfl (by omega) (by omega) ?_
              refine aw_callVE (as := [vI (g q)]) (st := []) hO dX5_readSum_77 rfl (lw_t3 16 rfl rfl) kX8_takes (T := TX8) rfl (by decide) rfl (cT_takes hL2.2.1 hL2.2.2.1 hq2 (c := g q) (by omega) (by omega)) (by omega) rfl rfl rfl (Nat.le_of_ble_eq_true rfl) (fun v10 μ11 hq12 => ?_)
              obtain ⟨e_v10, e_μ11⟩ := hq12
              rw [if_pos rfl] at e_μ11
              refine aw_pop hO dX5_readSum_80 rfl rfl ?_
              refine aw_iinc (ls' := [some (vR 8), some (vI ((d : Nat) : Int)), some (vI j), some (vI ((t : Nat) : Int)), some (vI (g q)), some (vI (((a : Nat) : Int) + 1))]) hO dX5_readSum_81 rfl rfl rfl rfl ?_
              refine aw_lsq (ls' := [some (vR 8), some (vI ((d : Nat) : Int)), some (vI j), some (vI ((t : Nat) : Int)), some (vI (g q)), some (vI (((a + 1) : Nat) : Int))]) rfl ?_
              refine aw_goto (tgt := 17) hO dX5_readSum_84 rfl ?_
              refine aw_lsq (ls' := [some (vR 8), some (vI ((d : Nat) : Int)), some (vI j), some (vI ((t : Nat) : Int)), some (vI (g q)), some (vI ((a + 1 : Nat) : Int))]) rfl ?_
              obtain ⟨op, hop⟩ : ∃ op, sepM (g q) = some op := ⟨5, show sepM (g q) = some 5 by unfold sepM; rw [if_neg c57, if_pos c64]⟩
              have hlt := hG.lt (p := q) (by have := sgM.2 _ op hop; omega)
              have hs1 := sk_ge g (q + 1)
              have hs2 := sk_le hG (p := q + 1) (by omega)
              exact ih (sk g (q + 1)) (a + 1) (g q) (C ++ (c2 ++ opT sepM s)) μ11 (by omega) hs2 (by omega) (sk_sk hG _) (Or.inr ⟨op, hop⟩) (by rw [opT_s hop]; simp only [List.length_append, List.length_cons, List.length_nil]; omega) (by rw [e_μ11]; exact hL2.tk) (by rw [cont_st hop] at hc; exact hc)
            · refine aw_goto (tgt := 87) hO dX5_readSum_67 rfl ?_
              refine aw_fg (ls' := [some (vR 8), some (vI ((d : Nat) : Int)), some (vI j), some (vI ((t : Nat) : Int)), none, none]) ⟨rfl, rfl, rfl, rfl, trivial⟩ ?_
              rw [rest_n (by unfold sepM; rw [if_neg c57, if_neg c64])] at hc
              exact k87 q _ μ5 hc.symm hq2 hq3 (by simp only [List.length_append]; omega) hL2
        · refine aw_iconst hO dX5_readSum_33 rfl ?_
          refine aw_zret hO dX5_readSum_34 (Or.inl rfl) ?_
          obtain ⟨q, hq, hB⟩ := hR.no c30
          rw [cont_b hq] at hc
          exact ⟨_, rfl, kf q _ hc.symm hB⟩
  have out : ∀ (f p2 t : Nat) (s : Int) (C : List Tok) (m : Mm), 2 * t ≤ p2 → p2 ≤ N → N < p2 + f → sk g p2 = p2 → (s = -1 ∨ ∃ op, sepA s = some op) → X.length + C.length + (opT sepA s).length ≤ p2 → LG g N μ m p2 (X ++ C.map enc) → cont g (chn g (A g) sepM) sepA f p2 C s = (chn g (chn g (A g) sepM) sepA p) → AW K 4 [some (vR 8), some (vI ((d : Nat) : Int)), some (vI s), some (vI ((t : Nat) : Int)), none, none] [] m := by
    intro f
    induction f with
    | zero => intro p2 t s C m _ h1 h2; omega
    | succ f ih =>
      intro p2 t s C m ht2 hpN hf hsk hs hlen hL hc
      have hsr : InR s := by
        rcases hs with e | ⟨op, e⟩
        · subst e; exact inRlit _
        · have := sgA.2 s op e; exact ⟨by omega, by omega⟩
      refine aw_iload_n hO dX5_readSum_4 rfl rfl ?_
      refine aw_sipush hO dX5_readSum_5 rfl (by decide) (by decide) ?_
      refine aw_icmp_ge (tgt := 133) hO dX5_readSum_8 rfl rfl (inRn (by omega)) (inRlit _) (fun c8 => ?_) (fun c8 => ?_)
      · exact absurd c8 (by omega)
      · refine aw_iconst hO dX5_readSum_11 rfl ?_
        refine aw_istore (ls' := [some (vR 8), some (vI ((d : Nat) : Int)), some (vI s), some (vI ((t : Nat) : Int)), some (vI (-1)), none]) hO dX5_readSum_12 rfl (Nat.le_of_ble_eq_true rfl) rfl rfl ?_
        refine aw_iconst hO dX5_readSum_14 rfl ?_
        refine aw_istore (ls' := [some (vR 8), some (vI ((d : Nat) : Int)), some (vI s), some (vI ((t : Nat) : Int)), some (vI (-1)), some (vI 0)]) hO dX5_readSum_15 rfl (Nat.le_of_ble_eq_true rfl) rfl rfl ?_
        refine aw_lsq (ls' := [some (vR 8), some (vI ((d : Nat) : Int)), some (vI s), some (vI ((t : Nat) : Int)), some (vI (-1)), some (vI ((0 : Nat) : Int))]) rfl ?_
        refine inn (chn g (A g) sepM p2) (X ++ C.map enc) s t (fun q m hq hB => (RO_b (by rw [← hc, cont_b hq])).mpr ⟨rfl, hB⟩) (fun q c2 m hq hq2 hq3 hq4 hL1 => ?_) 241 p2 0 (-1) [] m (by omega) hpN (by omega) hsk (Or.inl rfl) (by rw [opT_n sgM.1]; simp only [List.length_append, List.length_map, List.length_nil]; omega) (by rw [List.map_nil, List.append_nil]; exact hL) (cont_0 sgM.1)
        rw [cont_g hq] at hc
        have ho1 := opT_1 sepA s
        have hgr := hG.rng q
        have hq1 := ((hgT p2 hpN).2 q c2 hq).1
        have hq5 := ((hgT p2 hpN).2 q c2 hq).2.2.2.1
        refine aw_aload_n hO dX5_readSum_87 rfl rfl ?_
        refine gC_X5_12_8 hO dX5_readSum_88 rfl ?_
        refine aw_iload_n hO dX5_readSum_91 rfl rfl ?_
        refine aw_callVV (as := [vI s]) (st := []) hO dX5_readSum_92 rfl (lw_t3 33 rfl rfl) kX4_addSign (T := TX4) rfl (by decide) rfl (cT_addSign (hL1.2.2.2.B (by simp only [List.length_append, List.length_map]; omega)) (c := s) hsr) (by omega) rfl rfl rfl (Nat.le_of_ble_eq_true rfl) (fun μ14 hq15 => ?_)
        have e_μ14 := hq15
        have hL2 : LG g N μ μ14 q (X ++ (C ++ (c2 ++ opT sepA s)).map enc) := by
          rw [e_μ14]
          have := hL1.so sgA hs (by simp only [List.length_append, List.length_map]; omega)
          simpa only [List.map_append, List.append_assoc] using this
        refine aw_aload_n hO dX5_readSum_95 rfl rfl ?_
        refine gC_X5_18_8 hO dX5_readSum_96 rfl ?_
        refine aw_callVI (as := []) (st := []) hO dX5_readSum_99 rfl (lw_t3 17 rfl rfl) kX8_sign (T := TX8) rfl (by decide) rfl (cT_sign hL2.2.1.1 hL2.2.2.1 hq2) (by omega) rfl rfl rfl (Nat.le_of_ble_eq_true rfl) ?_
        refine aw_istore_n (ls' := [some (vR 8), some (vI ((d : Nat) : Int)), some (vI (g q)), some (vI ((t : Nat) : Int)), none, none]) hO dX5_readSum_102 rfl (Nat.le_of_ble_eq_true rfl) rfl rfl ?_
        refine aw_iload_n hO dX5_readSum_103 rfl rfl ?_
        refine aw_bipush hO dX5_readSum_104 rfl (by decide) (by decide) ?_
        refine aw_icmp_eq (tgt := 117) hO dX5_readSum_106 rfl rfl ⟨by omega, by omega⟩ (inRlit _) (fun c106 => ?_) (fun c106 => ?_)
        · refine aw_aload_n hO dX5_readSum_117 rfl rfl ?_
          refine gC_X5_18_8 hO dX5_readSum_118 rfl ?_
          refine aw_iload_n hO dX5_readSum_121 rfl rfl ?_
          refine aw_i2c hO dX5_readSum_122 rfl (by omega) (by omega) ?_
          refine aw_callVE (as := [vI (g q)]) (st := []) hO dX5_readSum_123 rfl (lw_t3 16 rfl rfl) kX8_takes (T := TX8) rfl (by decide) rfl (cT_takes hL2.2.1 hL2.2.2.1 hq2 (c := g q) (by omega) (by omega)) (by omega) rfl rfl rfl (Nat.le_of_ble_eq_true rfl) (fun v16 μ17 hq18 => ?_)
          obtain ⟨e_v16, e_μ17⟩ := hq18
          rw [if_pos rfl] at e_μ17
          refine aw_pop hO dX5_readSum_126 rfl rfl ?_
          refine aw_iinc (ls' := [some (vR 8), some (vI ((d : Nat) : Int)), some (vI (g q)), some (vI (((t : Nat) : Int) + 1)), none, none]) hO dX5_readSum_127 rfl rfl rfl rfl ?_
          refine aw_lsq (ls' := [some (vR 8), some (vI ((d : Nat) : Int)), some (vI (g q)), some (vI (((t + 1) : Nat) : Int)), none, none]) rfl ?_
          refine aw_goto (tgt := 4) hO dX5_readSum_130 rfl ?_
          refine aw_fg (ls' := [some (vR 8), some (vI ((d : Nat) : Int)), some (vI (g q)), some (vI ((t + 1 : Nat) : Int)), none, none]) ⟨rfl, rfl, rfl, rfl, trivial⟩ ?_
          obtain ⟨op, hop⟩ : ∃ op, sepA (g q) = some op := ⟨2, show sepA (g q) = some 2 by unfold sepA; rw [if_pos c106]⟩
          have hlt := hG.lt (p := q) (by have := sgA.2 _ op hop; omega)
          have hs1 := sk_ge g (q + 1)
          have hs2 := sk_le hG (p := q + 1) (by omega)
          exact ih (sk g (q + 1)) (t + 1) (g q) (C ++ (c2 ++ opT sepA s)) μ17 (by omega) hs2 (by omega) (sk_sk hG _) (Or.inr ⟨op, hop⟩) (by rw [opT_s hop]; simp only [List.length_append, List.length_cons, List.length_nil]; omega) (by rw [e_μ17]; exact hL2.tk) (by rw [cont_st hop] at hc; exact hc)
        · refine aw_iload_n hO dX5_readSum_109 rfl rfl ?_
          refine aw_bipush hO dX5_readSum_110 rfl (by decide) (by decide) ?_
          refine aw_icmp_eq (tgt := 117) hO dX5_readSum_112 rfl rfl ⟨by omega, by omega⟩ (inRlit _) (fun c112 => ?_) (fun c112 => ?_)
          · refine aw_aload_n hO dX5_readSum_117 rfl rfl ?_
            refine gC_X5_18_8 hO dX5_readSum_118 rfl ?_
            refine aw_iload_n hO dX5_readSum_121 rfl rfl ?_
            refine aw_i2c hO dX5_readSum_122 rfl (by omega) (by omega) ?_
            refine aw_callVE (as := [vI (g q)]) (st := []) hO dX5_readSum_123 rfl (lw_t3 16 rfl rfl) kX8_takes (T := TX8) rfl (by decide) rfl (cT_takes hL2.2.1 hL2.2.2.1 hq2 (c := g q) (by omega) (by omega)) (by omega) rfl rfl rfl (Nat.le_of_ble_eq_true rfl) (fun v19 μ20 hq21 => ?_)
            obtain ⟨e_v19, e_μ20⟩ := hq21
            rw [if_pos rfl] at e_μ20
            refine aw_pop hO dX5_readSum_126 rfl rfl ?_
            refine aw_iinc (ls' := [some (vR 8), some (vI ((d : Nat) : Int)), some (vI (g q)), some (vI (((t : Nat) : Int) + 1)), none, none]) hO dX5_readSum_127 rfl rfl rfl rfl ?_
            refine aw_lsq (ls' := [some (vR 8), some (vI ((d : Nat) : Int)), some (vI (g q)), some (vI (((t + 1) : Nat) : Int)), none, none]) rfl ?_
            refine aw_goto (tgt := 4) hO dX5_readSum_130 rfl ?_
            refine aw_fg (ls' := [some (vR 8), some (vI ((d : Nat) : Int)), some (vI (g q)), some (vI ((t + 1 : Nat) : Int)), none, none]) ⟨rfl, rfl, rfl, rfl, trivial⟩ ?_
            obtain ⟨op, hop⟩ : ∃ op, sepA (g q) = some op := ⟨3, show sepA (g q) = some 3 by unfold sepA; rw [if_neg c106, if_pos c112]⟩
            have hlt := hG.lt (p := q) (by have := sgA.2 _ op hop; omega)
            have hs1 := sk_ge g (q + 1)
            have hs2 := sk_le hG (p := q + 1) (by omega)
            exact ih (sk g (q + 1)) (t + 1) (g q) (C ++ (c2 ++ opT sepA s)) μ20 (by omega) hs2 (by omega) (sk_sk hG _) (Or.inr ⟨op, hop⟩) (by rw [opT_s hop]; simp only [List.length_append, List.length_cons, List.length_nil]; omega) (by rw [e_μ20]; exact hL2.tk) (by rw [cont_st hop] at hc; exact hc)
          · refine aw_iconst hO dX5_readSum_115 rfl ?_
            refine aw_zret hO dX5_readSum_116 (Or.inr rfl) ?_
            rw [rest_n (by unfold sepA; rw [if_neg c106, if_neg c112])] at hc
            exact ⟨_, rfl, (RO_g hc.symm).mpr ⟨rfl, hL2⟩⟩
  refine aw_iconst hO dX5_readSum_0 rfl ?_
  refine aw_istore_n (ls' := [some (vR 8), some (vI ((d : Nat) : Int)), some (vI (-1)), none, none, none]) hO dX5_readSum_1 rfl (Nat.le_of_ble_eq_true rfl) rfl rfl ?_
  refine aw_iconst hO dX5_readSum_2 rfl ?_
  refine aw_istore_n (ls' := [some (vR 8), some (vI ((d : Nat) : Int)), some (vI (-1)), some (vI 0), none, none]) hO dX5_readSum_3 rfl (Nat.le_of_ble_eq_true rfl) rfl rfl ?_
  refine aw_lsq (ls' := [some (vR 8), some (vI ((d : Nat) : Int)), some (vI (-1)), some (vI ((0 : Nat) : Int)), none, none]) rfl ?_
  exact out 241 p 0 (-1) [] μ (by omega) haN (by omega) hsp (Or.inl rfl) (by rw [opT_n sgA.1]; simp only [List.length_nil]; omega) ⟨Fr.rf, h, ha, by rw [List.map_nil, List.append_nil]; exact hX⟩ (cont_0 sgA.1)
theorem GQ.of {S : (Nat → Int) → Nat → PR} {W : List Tok → Prop} (h : ∀ g N, Gok g N → PGd g N W (S g)) : GQ S := fun g N hG p hp => ⟨(h g N hG p hp).1, fun q c e => by
  obtain ⟨a, b, c1, d, _⟩ := (h g N hG p hp).2 q c e
  exact ⟨a, b, c1, d, trivial⟩⟩
theorem gqAtom (r : Nat) : GQ (fun g => pAtom g r) := GQ.of (fun _ _ hG => pAtom_G hG r)
theorem gqSum (r : Nat) : GQ (fun g => pSum g r) := GQ.of (fun _ _ hG => pSum_G hG r)
theorem cT_readAtom : ∀ (r d : Nat), d + r = 6 → CR (4 + 2 * r) yX5_readAtom cX5_readAtom 5 [vR 8, vI ((d : Nat) : Int)] (fun g => pAtom g r)
  | 0, d, hd => cT_readAtom0 (r := 0) (S := fun _ q => (q, none)) hd (by omega) (fun e => absurd rfl e) (fun e => absurd rfl e)
  | r + 1, d, hd => by
    have ih := cT_readAtom r (d + 1) (by omega)
    have hs := cT_readSum0 (by omega) (gqAtom r) ih
    refine cT_readAtom0 (r := r + 1) (S := fun g => sumOf g (pAtom g r)) hd (by omega) (fun _ {g N} hG q hq => ?_) (fun _ => ?_)
    · have := gqSum r g N hG q hq
      exact ⟨this.1, fun q2 c e => ⟨(this.2 q2 c e).1, (this.2 q2 c e).2.1, (this.2 q2 c e).2.2.1, (this.2 q2 c e).2.2.2.1⟩⟩
    · rw [show 4 + 2 * (r + 1) - 1 = 4 + 2 * r + 1 by omega]
      exact hs
theorem cT_readSum (r d : Nat) (hd : d + r = 6) : CR (5 + 2 * r) yX5_readSum cX5_readSum 6 [vR 8, vI ((d : Nat) : Int)] (fun g => pSum g r) := by
  have := cT_readSum0 (by omega) (gqAtom r) (cT_readAtom r d hd)
  rw [show 5 + 2 * r = 4 + 2 * r + 1 by omega]
  exact this
