/-! ## the class reads a law (4) -/
/-- units joined, the first as x says -/
def uns (g : Nat → Int) (U : Nat → PR) (f : Nat) (C : List Tok) (s : Int) (x : PR) : PR := match x with
  | (q, none) => (q, none)
  | (q, some c2) => rest g U sepN f q (C ++ (c2 ++ opT sepN s))
theorem uns_b {g : Nat → Int} {U : Nat → PR} {f q : Nat} {C : List Tok} {s : Int} {x : PR} (h : x = (q, none)) : uns g U f C s x = (q, none) := by rw [h]; rfl
theorem uns_g {g : Nat → Int} {U : Nat → PR} {f q : Nat} {C c2 : List Tok} {s : Int} {x : PR} (h : x = (q, some c2)) : uns g U f C s x = rest g U sepN f q (C ++ (c2 ++ opT sepN s)) := by rw [h]; rfl
theorem uns_st {g : Nat → Int} {U : Nat → PR} {f q : Nat} {C : List Tok} (h : g q = 38) : rest g U sepN (f + 1) q C = uns g U f C 38 (U (sk g (q + 1))) := by
  have hs : sepN (g q) = some 10 := by rw [h]; rfl
  rw [cont_st hs, h]
  unfold cont uns
  rcases U (sk g (q + 1)) with ⟨q2, _ | c⟩ <;> rfl
/-- truths joined, the first as x says -/
def trs (g : Nat → Int) (U : Nat → PR) (f : Nat) (C : List Tok) (s : Int) (x : PR) : PR := match x with
  | (q, none) => (q, none)
  | (q, some c2) => rest g (chn g U sepN) sepO f q (C ++ (c2 ++ opT sepO s))
theorem trs_b {g : Nat → Int} {U : Nat → PR} {f q : Nat} {C : List Tok} {s : Int} {x : PR} (h : x = (q, none)) : trs g U f C s x = (q, none) := by rw [h]; rfl
theorem trs_g {g : Nat → Int} {U : Nat → PR} {f q : Nat} {C c2 : List Tok} {s : Int} {x : PR} (h : x = (q, some c2)) : trs g U f C s x = rest g (chn g U sepN) sepO f q (C ++ (c2 ++ opT sepO s)) := by rw [h]; rfl
theorem chn_uns {g : Nat → Int} {U : Nat → PR} {p : Nat} : chn g U sepN p = uns g U 241 [] (-1) (U p) := by
  unfold chn uns
  rw [opT_n sgN.1]
  rcases U p with ⟨q, _ | c⟩
  · rfl
  · simp only [List.append_nil, List.nil_append]
theorem trs_st {g : Nat → Int} {U : Nat → PR} {f q : Nat} {C : List Tok} (h : g q = 124) : rest g (chn g U sepN) sepO (f + 1) q C = trs g U f C 124 (uns g U 241 [] (-1) (U (sk g (q + 1)))) := by
  have hs : sepO (g q) = some 11 := by rw [h]; rfl
  rw [cont_st hs, h, ← chn_uns]
  unfold cont trs
  rcases chn g U sepN (sk g (q + 1)) with ⟨q2, _ | c⟩ <;> rfl
/-- a condition whose first unit is x -/
def cndF (g : Nat → Int) (U : Nat → PR) (x : PR) : PR := trs g U 241 [] (-1) (uns g U 241 [] (-1) x)
theorem cndF_0 {g : Nat → Int} {U : Nat → PR} {p : Nat} : cndF g U (U p) = condOf g U p := by
  unfold cndF condOf
  rw [← chn_uns]
  rcases h : chn g U sepN p with ⟨q, _ | c⟩
  · rw [trs_b rfl, chn_b h]
  · rw [trs_g rfl, chn_g h, opT_n sgO.1]
    simp only [List.append_nil, List.nil_append]
theorem uns_G {g : Nat → Int} {N : Nat} (hG : Gok g N) {U : Nat → PR} (hU : PGd g N (fun _ => True) U) {x : PR} {p : Nat} (hx : ∀ q c, x = (q, some c) → p < q ∧ q ≤ N ∧ sk g q = q ∧ p + c.length ≤ q ∧ True) {q : Nat} {c : List Tok} (e : uns g U 241 [] (-1) x = (q, some c)) : p < q ∧ q ≤ N ∧ sk g q = q ∧ p + c.length ≤ q := by
  rcases x with ⟨q0, _ | c0⟩
  · simp [uns] at e
  · obtain ⟨a1, a2, a3, a4, -⟩ := hx q0 c0 rfl
    rw [uns_g rfl, opT_n sgN.1, List.append_nil, List.nil_append] at e
    have := (rest_G hG hU (W := fun _ => True) sgN.1 (fun _ _ _ _ _ _ _ => trivial) 241 q0 c0 a2 (by have := hG.1; omega) a3 trivial).2 q c e
    omega
theorem dX5_readCondition_0 : decode cX5_readCondition 0 = .ok (.iload_n 2, 1) := by decide +kernel
theorem dX5_readCondition_1 : decode cX5_readCondition 1 = .ok (.istore_n 3, 1) := by decide +kernel
theorem dX5_readCondition_2 : decode cX5_readCondition 2 = .ok (.iconst 0, 1) := by decide +kernel
theorem dX5_readCondition_3 : decode cX5_readCondition 3 = .ok (.istore 4, 2) := by decide +kernel
theorem dX5_readCondition_5 : decode cX5_readCondition 5 = .ok (.iload 4, 2) := by decide +kernel
theorem dX5_readCondition_7 : decode cX5_readCondition 7 = .ok (.sipush 240, 3) := by decide +kernel
theorem dX5_readCondition_10 : decode cX5_readCondition 10 = .ok (.if_icmp .ge 96, 3) := by decide +kernel
theorem dX5_readCondition_13 : decode cX5_readCondition 13 = .ok (.iconst 0, 1) := by decide +kernel
theorem dX5_readCondition_14 : decode cX5_readCondition 14 = .ok (.istore 5, 2) := by decide +kernel
theorem dX5_readCondition_16 : decode cX5_readCondition 16 = .ok (.iload 5, 2) := by decide +kernel
theorem dX5_readCondition_18 : decode cX5_readCondition 18 = .ok (.sipush 240, 3) := by decide +kernel
theorem dX5_readCondition_21 : decode cX5_readCondition 21 = .ok (.if_icmp .ge 51, 3) := by decide +kernel
theorem dX5_readCondition_24 : decode cX5_readCondition 24 = .ok (.aload_n 0, 1) := by decide +kernel
theorem dX5_readCondition_25 : decode cX5_readCondition 25 = .ok (.iload_n 1, 1) := by decide +kernel
theorem dX5_readCondition_26 : decode cX5_readCondition 26 = .ok (.iload_n 3, 1) := by decide +kernel
theorem dX5_readCondition_27 : decode cX5_readCondition 27 = .ok (.invokevirtual 64, 3) := by decide +kernel
theorem dX5_readCondition_30 : decode cX5_readCondition 30 = .ok (.ifCond .ne 5, 3) := by decide +kernel
theorem dX5_readCondition_33 : decode cX5_readCondition 33 = .ok (.iconst 0, 1) := by decide +kernel
theorem dX5_readCondition_34 : decode cX5_readCondition 34 = .ok (.ireturn, 1) := by decide +kernel
theorem dX5_readCondition_35 : decode cX5_readCondition 35 = .ok (.iconst 0, 1) := by decide +kernel
theorem dX5_readCondition_36 : decode cX5_readCondition 36 = .ok (.istore_n 3, 1) := by decide +kernel
theorem dX5_readCondition_37 : decode cX5_readCondition 37 = .ok (.iload 5, 2) := by decide +kernel
theorem dX5_readCondition_39 : decode cX5_readCondition 39 = .ok (.ifCond .le 12, 3) := by decide +kernel
theorem dX5_readCondition_42 : decode cX5_readCondition 42 = .ok (.aload_n 0, 1) := by decide +kernel
theorem dX5_readCondition_43 : decode cX5_readCondition 43 = .ok (.getfield 12, 3) := by decide +kernel
theorem dX5_readCondition_46 : decode cX5_readCondition 46 = .ok (.bipush 38, 2) := by decide +kernel
theorem dX5_readCondition_48 : decode cX5_readCondition 48 = .ok (.invokevirtual 67, 3) := by decide +kernel
theorem dX5_readCondition_51 : decode cX5_readCondition 51 = .ok (.aload_n 0, 1) := by decide +kernel
theorem dX5_readCondition_52 : decode cX5_readCondition 52 = .ok (.getfield 18, 3) := by decide +kernel
theorem dX5_readCondition_55 : decode cX5_readCondition 55 = .ok (.bipush 38, 2) := by decide +kernel
theorem dX5_readCondition_57 : decode cX5_readCondition 57 = .ok (.invokevirtual 38, 3) := by decide +kernel
theorem dX5_readCondition_60 : decode cX5_readCondition 60 = .ok (.ifCond .ne 6, 3) := by decide +kernel
theorem dX5_readCondition_63 : decode cX5_readCondition 63 = .ok (.goto 9, 3) := by decide +kernel
theorem dX5_readCondition_66 : decode cX5_readCondition 66 = .ok (.iinc 5 1, 3) := by decide +kernel
theorem dX5_readCondition_69 : decode cX5_readCondition 69 = .ok (.goto (-53), 3) := by decide +kernel
theorem dX5_readCondition_72 : decode cX5_readCondition 72 = .ok (.iload 4, 2) := by decide +kernel
theorem dX5_readCondition_74 : decode cX5_readCondition 74 = .ok (.ifCond .le 12, 3) := by decide +kernel
theorem dX5_readCondition_77 : decode cX5_readCondition 77 = .ok (.aload_n 0, 1) := by decide +kernel
theorem dX5_readCondition_78 : decode cX5_readCondition 78 = .ok (.getfield 12, 3) := by decide +kernel
theorem dX5_readCondition_81 : decode cX5_readCondition 81 = .ok (.bipush 124, 2) := by decide +kernel
theorem dX5_readCondition_83 : decode cX5_readCondition 83 = .ok (.invokevirtual 67, 3) := by decide +kernel
theorem dX5_readCondition_86 : decode cX5_readCondition 86 = .ok (.aload_n 0, 1) := by decide +kernel
theorem dX5_readCondition_87 : decode cX5_readCondition 87 = .ok (.getfield 18, 3) := by decide +kernel
theorem dX5_readCondition_90 : decode cX5_readCondition 90 = .ok (.bipush 124, 2) := by decide +kernel
theorem dX5_readCondition_92 : decode cX5_readCondition 92 = .ok (.invokevirtual 38, 3) := by decide +kernel
theorem dX5_readCondition_95 : decode cX5_readCondition 95 = .ok (.ifCond .ne 5, 3) := by decide +kernel
theorem dX5_readCondition_98 : decode cX5_readCondition 98 = .ok (.iconst 1, 1) := by decide +kernel
theorem dX5_readCondition_99 : decode cX5_readCondition 99 = .ok (.ireturn, 1) := by decide +kernel
theorem dX5_readCondition_100 : decode cX5_readCondition 100 = .ok (.iinc 4 1, 3) := by decide +kernel
theorem dX5_readCondition_103 : decode cX5_readCondition 103 = .ok (.goto (-98), 3) := by decide +kernel
theorem dX5_readCondition_106 : decode cX5_readCondition 106 = .ok (.iconst 0, 1) := by decide +kernel
theorem dX5_readCondition_107 : decode cX5_readCondition 107 = .ok (.ireturn, 1) := by decide +kernel
set_option maxHeartbeats 4000000 in
set_option maxRecDepth 100000 in
theorem cT_readCond0 {d D : Nat} {z : Int} {U0 U : (Nat → Int) → Nat → PR} (hD : 2 ≤ D) (hGU0 : GQ U0) (hGU : GQ U) (hU0 : CR D yX5_readUnit cX5_readUnit 5 [vR 8, vI ((d : Nat) : Int), vI z] U0) (hU : CR D yX5_readUnit cX5_readUnit 5 [vR 8, vI ((d : Nat) : Int), vI 0] U) : CR (D + 1) yX5_readCondition cX5_readCondition 6 [vR 8, vI ((d : Nat) : Int), vI z] (fun g p => cndF g (U g) (U0 g p)) := by
  intro μ g N p X h ha haN hsp hX hXp
  refine ct_intro [some (vR 8), some (vI ((d : Nat) : Int)), some (vI z), none, none, none] RX5 (by decide) rfl XCo rfl (Nat.le_of_ble_eq_true rfl) (fun K hO => ?_)
  have hG := h.G
  have hN := hG.1
  have hgU := hGU g N hG
  have inn : ∀ (tr : PR) (X0 : List Int) (t : Nat), (∀ q m, tr = (q, none) → LB g N μ m q → RO g N μ X (cndF g (U g) (U0 g p)) 0 m) → (∀ q c m, tr = (q, some c) → q ≤ N → sk g q = q → X0.length + c.length ≤ q → LG g N μ m q (X0 ++ c.map enc) → AW K 72 [some (vR 8), some (vI ((d : Nat) : Int)), some (vI z), some (vI 0), some (vI ((t : Nat) : Int)), none] [] m) → ∀ (f p2 u : Nat) (fl : Int) (IT : (Nat → Int) → Nat → PR) (C : List Tok) (m : Mm), CR D yX5_readUnit cX5_readUnit 5 [vR 8, vI ((d : Nat) : Int), vI fl] IT → GQ IT → 2 * u ≤ p2 → p2 ≤ N → N < p2 + f → sk g p2 = p2 → X0.length + C.length + (opT sepN (if u = 0 then -1 else 38)).length ≤ p2 → LG g N μ m p2 (X0 ++ C.map enc) → uns g (U g) f C (if u = 0 then -1 else 38) (IT g p2) = tr → AW K 16 [some (vR 8), some (vI ((d : Nat) : Int)), some (vI z), some (vI fl), some (vI ((t : Nat) : Int)), some (vI ((u : Nat) : Int))] [] m := by
    intro tr X0 t kf k72 f
    induction f with
    | zero => intro p2 u fl IT C m _ _ _ h1 h2; omega
    | succ f ih =>
      intro p2 u fl IT C m hIT hGI hu2 hpN hf hsk hlen hL hc
      have k51 : ∀ (q : Nat) (c2 : List Tok) (m2 : Mm), p2 < q → q ≤ N → sk g q = q → p2 + c2.length ≤ q → rest g (U g) sepN (f + 1) q (C ++ (c2 ++ opT sepN (if u = 0 then -1 else 38))) = tr → LG g N μ m2 q (X0 ++ (C ++ (c2 ++ opT sepN (if u = 0 then -1 else 38))).map enc) → AW K 51 [some (vR 8), some (vI ((d : Nat) : Int)), some (vI z), some (vI 0), some (vI ((t : Nat) : Int)), some (vI ((u : Nat) : Int))] [] m2 := by
        intro q c2 m2 hq1 hq2 hq3 hq4 hc hL2
        have ho1 := opT_1 sepN (if u = 0 then -1 else 38)
        refine aw_aload_n hO dX5_readCondition_51 rfl rfl ?_
        refine gC_X5_18_8 hO dX5_readCondition_52 rfl ?_
        refine aw_bipush hO dX5_readCondition_55 rfl (by decide) (by decide) ?_
        refine aw_callVE (as := [vI 38]) (st := []) hO dX5_readCondition_57 rfl (lw_t3 16 rfl rfl) kX8_takes (T := TX8) rfl (by decide) rfl (cT_takes hL2.2.1 hL2.2.2.1 hq2 (c := 38) (by omega) (by omega)) (by omega) rfl rfl rfl (Nat.le_of_ble_eq_true rfl) (fun v1 μ2 hq3 => ?_)
        obtain ⟨e_v1, e_μ2⟩ := hq3
        refine aw_if_ne (tgt := 66) hO dX5_readCondition_60 rfl rfl ⟨by omega, by omega⟩ (fun c60 => ?_) (fun c60 => ?_)
        · have h38 : g q = 38 := by by_cases e : g q = 38; exact e; rw [if_neg e] at e_v1; exact absurd e_v1 c60
          rw [if_pos h38] at e_μ2
          refine aw_iinc (ls' := [some (vR 8), some (vI ((d : Nat) : Int)), some (vI z), some (vI 0), some (vI ((t : Nat) : Int)), some (vI (((u : Nat) : Int) + 1))]) hO dX5_readCondition_66 rfl rfl rfl rfl ?_
          refine aw_lsq (ls' := [some (vR 8), some (vI ((d : Nat) : Int)), some (vI z), some (vI 0), some (vI ((t : Nat) : Int)), some (vI (((u + 1) : Nat) : Int))]) rfl ?_
          refine aw_goto (tgt := 16) hO dX5_readCondition_69 rfl ?_
          refine aw_lsq (ls' := [some (vR 8), some (vI ((d : Nat) : Int)), some (vI z), some (vI 0), some (vI ((t : Nat) : Int)), some (vI ((u + 1 : Nat) : Int))]) rfl ?_
          have hlt := hG.lt (p := q) (by omega)
          have hs1 := sk_ge g (q + 1)
          have hs2 := sk_le hG (p := q + 1) (by omega)
          exact ih (sk g (q + 1)) (u + 1) 0 U (C ++ (c2 ++ opT sepN (if u = 0 then -1 else 38))) μ2 hU hGU (by omega) hs2 (by omega) (sk_sk hG _) (by rw [if_neg (Nat.succ_ne_zero u), opT_s (sep := sepN) (c := 38) (op := 10) rfl]; simp only [List.length_append, List.length_cons, List.length_nil]; omega) (by rw [e_μ2]; exact hL2.tk) (by rw [if_neg (Nat.succ_ne_zero u)]; rw [uns_st h38] at hc; exact hc)
        · have h38 : ¬ g q = 38 := fun e => by rw [if_pos e] at e_v1; omega
          rw [if_neg h38] at e_μ2
          refine aw_goto (tgt := 72) hO dX5_readCondition_63 rfl ?_
          refine aw_fg (ls' := [some (vR 8), some (vI ((d : Nat) : Int)), some (vI z), some (vI 0), some (vI ((t : Nat) : Int)), none]) ⟨rfl, rfl, rfl, rfl, rfl, trivial⟩ ?_
          rw [rest_n (by unfold sepN; rw [if_neg h38])] at hc
          refine aw_meq e_μ2 ?_
          exact k72 q _ m2 hc.symm hq2 hq3 (by simp only [List.length_append]; omega) hL2
      refine aw_iload hO dX5_readCondition_16 rfl rfl ?_
      refine aw_sipush hO dX5_readCondition_18 rfl (by decide) (by decide) ?_
      refine aw_icmp_ge (tgt := 72) hO dX5_readCondition_21 rfl rfl (inRn (by omega)) (inRlit _) (fun c21 => ?_) (fun c21 => ?_)
      · exact absurd c21 (by omega)
      · refine aw_aload_n hO dX5_readCondition_24 rfl rfl ?_
        refine aw_iload_n hO dX5_readCondition_25 rfl rfl ?_
        refine aw_iload_n hO dX5_readCondition_26 rfl rfl ?_
        refine aw_callVE (as := [vI ((d : Nat) : Int), vI fl]) (st := []) hO dX5_readCondition_27 rfl (lw_t3 45 rfl rfl) kX5_readUnit (T := TX5) rfl (by decide) rfl (hIT m g N p2 _ hL.2.1 hL.2.2.1 hpN hsk hL.2.2.2 (by rw [List.length_append, List.length_map]; omega)) (by omega) rfl rfl rfl (Nat.le_of_ble_eq_true rfl) (fun v4 μ5 hq6 => ?_)
        have hR : RO g N μ (X0 ++ C.map enc) (IT g p2) v4 μ5 := RO.tr hq6 hL.1
        have hvz := hR.z
        refine aw_if_ne (tgt := 35) hO dX5_readCondition_30 rfl rfl ⟨by omega, by omega⟩ (fun c30 => ?_) (fun c30 => ?_)
        · obtain ⟨q, c2, hq, hL1⟩ := hR.yes c30
          obtain ⟨hq1, hq2, hq3, hq4, -⟩ := (hGI g N hG p2 hpN).2 q c2 hq
          rw [uns_g hq] at hc
          have ho1 := opT_1 sepN (if u = 0 then -1 else 38)
          have hgr := hG.rng q
          refine aw_iconst hO dX5_readCondition_35 rfl ?_
          refine aw_istore_n (ls' := [some (vR 8), some (vI ((d : Nat) : Int)), some (vI z), some (vI 0), some (vI ((t : Nat) : Int)), some (vI ((u : Nat) : Int))]) hO dX5_readCondition_36 rfl (Nat.le_of_ble_eq_true rfl) rfl rfl ?_
          refine aw_iload hO dX5_readCondition_37 rfl rfl ?_
          refine aw_if_le (tgt := 51) hO dX5_readCondition_39 rfl rfl (inRn (by omega)) (fun c39 => ?_) (fun c39 => ?_)
          · have hu0 : u = 0 := by omega
            exact k51 q c2 μ5 hq1 hq2 hq3 hq4 hc (by rw [if_pos hu0, opT_n sgN.1, List.append_nil, List.map_append, ← List.append_assoc]; exact hL1)
          · refine aw_aload_n hO dX5_readCondition_42 rfl rfl ?_
            refine gC_X5_12_8 hO dX5_readCondition_43 rfl ?_
            refine aw_bipush hO dX5_readCondition_46 rfl (by decide) (by decide) ?_
            refine aw_callVV (as := [vI 38]) (st := []) hO dX5_readCondition_48 rfl (lw_t3 33 rfl rfl) kX4_addSign (T := TX4) rfl (by decide) rfl (cT_addSign (hL1.2.2.2.B (by simp only [List.length_append, List.length_map]; omega)) (c := 38) (inRlit _)) (by omega) rfl rfl rfl (Nat.le_of_ble_eq_true rfl) (fun μ8 hq9 => ?_)
            have e_μ8 := hq9
            have hu0 : u ≠ 0 := by omega
            exact k51 q c2 μ8 hq1 hq2 hq3 hq4 hc (by
              rw [if_neg hu0] at ho1 hlen ⊢
              rw [e_μ8]
              have := hL1.so sgN (s := 38) (Or.inr ⟨10, rfl⟩) (by simp only [List.length_append, List.length_map]; omega)
              simpa only [List.map_append, List.append_assoc] using this)
        · refine aw_iconst hO dX5_readCondition_33 rfl ?_
          refine aw_zret hO dX5_readCondition_34 (Or.inl rfl) ?_
          obtain ⟨q, hq, hB⟩ := hR.no c30
          rw [uns_b hq] at hc
          exact ⟨_, rfl, kf q _ hc.symm hB⟩
  have out : ∀ (f p2 t : Nat) (fl : Int) (IT : (Nat → Int) → Nat → PR) (C : List Tok) (m : Mm), CR D yX5_readUnit cX5_readUnit 5 [vR 8, vI ((d : Nat) : Int), vI fl] IT → GQ IT → 2 * t ≤ p2 → p2 ≤ N → N < p2 + f → sk g p2 = p2 → X.length + C.length + (opT sepO (if t = 0 then -1 else 124)).length ≤ p2 → LG g N μ m p2 (X ++ C.map enc) → trs g (U g) f C (if t = 0 then -1 else 124) (uns g (U g) 241 [] (-1) (IT g p2)) = (cndF g (U g) (U0 g p)) → AW K 5 [some (vR 8), some (vI ((d : Nat) : Int)), some (vI z), some (vI fl), some (vI ((t : Nat) : Int)), none] [] m := by
    intro f
    induction f with
    | zero => intro p2 t fl IT C m _ _ _ h1 h2; omega
    | succ f ih =>
      intro p2 t fl IT C m hIT hGI ht2 hpN hf hsk hlen hL hc
      refine aw_iload hO dX5_readCondition_5 rfl rfl ?_
      refine aw_sipush hO dX5_readCondition_7 rfl (by decide) (by decide) ?_
      refine aw_icmp_ge (tgt := 106) hO dX5_readCondition_10 rfl rfl (inRn (by omega)) (inRlit _) (fun c10 => ?_) (fun c10 => ?_)
      · exact absurd c10 (by omega)
      · refine aw_iconst hO dX5_readCondition_13 rfl ?_
        refine aw_istore (ls' := [some (vR 8), some (vI ((d : Nat) : Int)), some (vI z), some (vI fl), some (vI ((t : Nat) : Int)), some (vI 0)]) hO dX5_readCondition_14 rfl (Nat.le_of_ble_eq_true rfl) rfl rfl ?_
        refine aw_lsq (ls' := [some (vR 8), some (vI ((d : Nat) : Int)), some (vI z), some (vI fl), some (vI ((t : Nat) : Int)), some (vI ((0 : Nat) : Int))]) rfl ?_
        refine inn (uns g (U g) 241 [] (-1) (IT g p2)) (X ++ C.map enc) t (fun q m hq hB => RO.mk0 (by rw [← hc, trs_b hq]) hB) (fun q c2 m hq hq2 hq3 hq4 hL1 => ?_) 241 p2 0 fl IT [] m hIT hGI (by omega) hpN (by omega) hsk (by rw [if_pos rfl, opT_n sgN.1]; simp only [List.length_append, List.length_map, List.length_nil]; omega) (by rw [List.map_nil, List.append_nil]; exact hL) (by rw [if_pos rfl])
        rw [trs_g hq] at hc
        have ho1 := opT_1 sepO (if t = 0 then -1 else 124)
        have hgr := hG.rng q
        have hqG := uns_G hG hgU (fun q c e => (hGI g N hG p2 hpN).2 q c e) hq
        have k86 : ∀ (m2 : Mm), LG g N μ m2 q (X ++ (C ++ (c2 ++ opT sepO (if t = 0 then -1 else 124))).map enc) → AW K 86 [some (vR 8), some (vI ((d : Nat) : Int)), some (vI z), some (vI 0), some (vI ((t : Nat) : Int)), none] [] m2 := by
          intro m2 hL2
          refine aw_aload_n hO dX5_readCondition_86 rfl rfl ?_
          refine gC_X5_18_8 hO dX5_readCondition_87 rfl ?_
          refine aw_bipush hO dX5_readCondition_90 rfl (by decide) (by decide) ?_
          refine aw_callVE (as := [vI 124]) (st := []) hO dX5_readCondition_92 rfl (lw_t3 16 rfl rfl) kX8_takes (T := TX8) rfl (by decide) rfl (cT_takes hL2.2.1 hL2.2.2.1 hq2 (c := 124) (by omega) (by omega)) (by omega) rfl rfl rfl (Nat.le_of_ble_eq_true rfl) (fun v10 μ11 hq12 => ?_)
          obtain ⟨e_v10, e_μ11⟩ := hq12
          refine aw_if_ne (tgt := 100) hO dX5_readCondition_95 rfl rfl ⟨by omega, by omega⟩ (fun c95 => ?_) (fun c95 => ?_)
          · have h124 : g q = 124 := by by_cases e : g q = 124; exact e; rw [if_neg e] at e_v10; exact absurd e_v10 c95
            rw [if_pos h124] at e_μ11
            refine aw_iinc (ls' := [some (vR 8), some (vI ((d : Nat) : Int)), some (vI z), some (vI 0), some (vI (((t : Nat) : Int) + 1)), none]) hO dX5_readCondition_100 rfl rfl rfl rfl ?_
            refine aw_lsq (ls' := [some (vR 8), some (vI ((d : Nat) : Int)), some (vI z), some (vI 0), some (vI (((t + 1) : Nat) : Int)), none]) rfl ?_
            refine aw_goto (tgt := 5) hO dX5_readCondition_103 rfl ?_
            refine aw_lsq (ls' := [some (vR 8), some (vI ((d : Nat) : Int)), some (vI z), some (vI 0), some (vI ((t + 1 : Nat) : Int)), none]) rfl ?_
            have hlt := hG.lt (p := q) (by omega)
            have hs1 := sk_ge g (q + 1)
            have hs2 := sk_le hG (p := q + 1) (by omega)
            exact ih (sk g (q + 1)) (t + 1) 0 U (C ++ (c2 ++ opT sepO (if t = 0 then -1 else 124))) μ11 hU hGU (by omega) hs2 (by omega) (sk_sk hG _) (by rw [if_neg (Nat.succ_ne_zero t), opT_s (sep := sepO) (c := 124) (op := 11) rfl]; simp only [List.length_append, List.length_cons, List.length_nil]; omega) (by rw [e_μ11]; exact hL2.tk) (by rw [if_neg (Nat.succ_ne_zero t)]; rw [trs_st h124] at hc; exact hc)
          · have h124 : ¬ g q = 124 := fun e => by rw [if_pos e] at e_v10; omega
            rw [if_neg h124] at e_μ11
            refine aw_iconst hO dX5_readCondition_98 rfl ?_
            refine aw_zret hO dX5_readCondition_99 (Or.inr rfl) ?_
            rw [rest_n (by unfold sepO; rw [if_neg h124])] at hc
            exact ⟨_, rfl, RO.mk1 hc.symm (by rw [e_μ11]; exact hL2)⟩
        refine aw_iload hO dX5_readCondition_72 rfl rfl ?_
        refine aw_if_le (tgt := 86) hO dX5_readCondition_74 rfl rfl (inRn (by omega)) (fun c74 => ?_) (fun c74 => ?_)
        · have ht0 : t = 0 := by omega
          exact k86 m (by rw [if_pos ht0, opT_n sgO.1, List.append_nil, List.map_append, ← List.append_assoc]; exact hL1)
        · refine aw_aload_n hO dX5_readCondition_77 rfl rfl ?_
          refine gC_X5_12_8 hO dX5_readCondition_78 rfl ?_
          refine aw_bipush hO dX5_readCondition_81 rfl (by decide) (by decide) ?_
          refine aw_callVV (as := [vI 124]) (st := []) hO dX5_readCondition_83 rfl (lw_t3 33 rfl rfl) kX4_addSign (T := TX4) rfl (by decide) rfl (cT_addSign (hL1.2.2.2.B (by simp only [List.length_append, List.length_map] at *; omega)) (c := 124) (inRlit _)) (by omega) rfl rfl rfl (Nat.le_of_ble_eq_true rfl) (fun μ14 hq15 => ?_)
          have e_μ14 := hq15
          have ht0 : t ≠ 0 := by omega
          exact k86 μ14 (by
            rw [if_neg ht0] at ho1 hlen ⊢
            rw [e_μ14]
            have := hL1.so sgO (s := 124) (Or.inr ⟨11, rfl⟩) (by simp only [List.length_append, List.length_map] at *; omega)
            simpa only [List.map_append, List.append_assoc] using this)
  refine aw_iload_n hO dX5_readCondition_0 rfl rfl ?_
  refine aw_istore_n (ls' := [some (vR 8), some (vI ((d : Nat) : Int)), some (vI z), some (vI z), none, none]) hO dX5_readCondition_1 rfl (Nat.le_of_ble_eq_true rfl) rfl rfl ?_
  refine aw_iconst hO dX5_readCondition_2 rfl ?_
  refine aw_istore (ls' := [some (vR 8), some (vI ((d : Nat) : Int)), some (vI z), some (vI z), some (vI 0), none]) hO dX5_readCondition_3 rfl (Nat.le_of_ble_eq_true rfl) rfl rfl ?_
  refine aw_lsq (ls' := [some (vR 8), some (vI ((d : Nat) : Int)), some (vI z), some (vI z), some (vI ((0 : Nat) : Int)), none]) rfl ?_
  exact out 241 p 0 z U0 [] μ hU0 hGU0 (by omega) haN (by omega) hsp (by rw [if_pos rfl, opT_n sgO.1]; simp only [List.length_nil]; omega) ⟨Fr.rf, h, ha, by rw [List.map_nil, List.append_nil]; exact hX⟩ (by rw [if_pos rfl]; rfl)
theorem gqUnit (r : Nat) : GQ (fun g => pUnit g r) := GQ.of (fun _ _ hG => pUnit_G hG r)
theorem cT_condOf {d D : Nat} {U : (Nat → Int) → Nat → PR} (hD : 2 ≤ D) (hGU : GQ U) (hU : CR D yX5_readUnit cX5_readUnit 5 [vR 8, vI ((d : Nat) : Int), vI 0] U) : CR (D + 1) yX5_readCondition cX5_readCondition 6 [vR 8, vI ((d : Nat) : Int), vI 0] (fun g => condOf g (U g)) := by
  have h := cT_readCond0 hD hGU hGU hU hU
  have e : (fun (g : Nat → Int) (p : Nat) => cndF g (U g) (U g p)) = (fun g => condOf g (U g)) := by
    funext g p
    exact cndF_0
  rw [e] at h
  exact h
theorem cT_readUnit : ∀ (r d : Nat), d + r = 6 → CR (6 + 2 * r) yX5_readUnit cX5_readUnit 5 [vR 8, vI ((d : Nat) : Int), vI 0] (fun g => pUnit g r)
  | 0, d, hd => cT_readUnit0 (r := 0) (D1 := 0) (D2 := 0) (U := fun _ q => (q, none)) hd (by omega) (by omega) (by omega) (fun e => absurd rfl e) (fun e => absurd rfl e) (fun e => absurd rfl e)
  | r + 1, d, hd => by
    have ih := cT_readUnit r (d + 1) (by omega)
    have hc := cT_condOf (by omega) (gqUnit r) ih
    exact cT_readUnit0 (r := r + 1) (U := fun g => pUnit g r) hd (by omega) (by omega) (by omega) (fun _ => gqUnit r) (fun _ => GQ.chn (S := fun g => chn g (pUnit g r) sepN) ((gqUnit r).chn sgN.1) sgO.1) (fun _ => ⟨ih, hc⟩)
