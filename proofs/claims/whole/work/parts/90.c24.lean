/-! ## the class reads a law (5) -/
def mpre (c : List Tok) (x : PR) : PR := (x.1, x.2.map (fun y => c ++ y))
theorem rest_pre {g : Nat → Int} {item : Nat → PR} {sep : Int → Option Int} (c : List Tok) : ∀ f q y, rest g item sep f q (c ++ y) = mpre c (rest g item sep f q y)
  | 0, _, _ => rfl
  | f + 1, q, y => by
    rw [rest, rest]
    cases sep (g q) with
    | none => rfl
    | some op =>
      rcases item (sk g (q + 1)) with ⟨q2, _ | c2⟩
      · rfl
      · simp only
        rw [List.append_assoc]
        exact rest_pre c f q2 _
theorem uns_pre {g : Nat → Int} {U : Nat → PR} {f : Nat} (c : List Tok) (x : PR) : uns g U f [] (-1) (mpre c x) = mpre c (uns g U f [] (-1) x) := by
  rcases x with ⟨q, _ | y⟩
  · rfl
  · show rest g U sepN f q ([] ++ ((c ++ y) ++ opT sepN (-1))) = mpre c (rest g U sepN f q ([] ++ (y ++ opT sepN (-1))))
    rw [List.nil_append, List.nil_append, List.append_assoc]
    exact rest_pre c f q _
theorem trs_pre {g : Nat → Int} {U : Nat → PR} {f : Nat} (c : List Tok) (x : PR) : trs g U f [] (-1) (mpre c x) = mpre c (trs g U f [] (-1) x) := by
  rcases x with ⟨q, _ | y⟩
  · rfl
  · show rest g (chn g U sepN) sepO f q ([] ++ ((c ++ y) ++ opT sepO (-1))) = mpre c (rest g (chn g U sepN) sepO f q ([] ++ (y ++ opT sepO (-1))))
    rw [List.nil_append, List.nil_append, List.append_assoc]
    exact rest_pre c f q _
theorem cnd_pre {g : Nat → Int} {U : Nat → PR} (c : List Tok) (x : PR) : cndF g U (mpre c x) = mpre c (cndF g U x) := by unfold cndF; rw [uns_pre, trs_pre]
theorem cmp_pre {g : Nat → Int} {r q : Nat} (c : List Tok) : pCmp g r q c = mpre c (pCmp g r q []) := by
  rcases h : pCmp g r q [] with ⟨q2, _ | c2⟩
  · exact pCmp_pre.1 q2 h
  · exact pCmp_pre.2 q2 c2 h
theorem cond_F {g : Nat → Int} {r : Nat} (x : PR) : condFrom g r x = cndF g (pUnit g r) x := by
  rcases x with ⟨q, _ | c⟩
  · rfl
  · unfold cndF
    rw [uns_g rfl, opT_n sgN.1, List.append_nil, List.nil_append]
    show (match rest g (pUnit g r) sepN 241 q c with
      | (q2, none) => (q2, none)
      | (q2, some c2) => rest g (chn g (pUnit g r) sepN) sepO 241 q2 c2) = _
    rcases rest g (pUnit g r) sepN 241 q c with ⟨q2, _ | c2⟩
    · rfl
    · rw [trs_g rfl, opT_n sgO.1, List.append_nil, List.nil_append]
theorem cmpL_app : ∀ (l : List Cl) (p : Nat) (c : Cl), cmpL p (l ++ [c]) = cmpL p l ++ cmpL (p + (cmpL p l).length) [c]
  | [], p, c => by simp [cmpL]
  | (none, s) :: r, p, c => by
    rw [List.cons_append, cmpL, cmpL_app r, cmpL]
    simp only [List.length_append, List.length_map, List.length_cons, List.append_assoc, List.cons_append]
    rw [show p + s.length + 1 + (cmpL (p + s.length + 1) r).length = p + (s.length + ((cmpL (p + s.length + 1) r).length + 1)) by omega]
  | (some t, s) :: r, p, c => by
    rw [List.cons_append, cmpL, cmpL_app r, cmpL]
    simp only [List.length_append, List.length_map, List.length_cons, List.append_assoc, List.cons_append]
    rw [show p + t.length + s.length + 2 + (cmpL (p + t.length + s.length + 2) r).length = p + (t.length + (s.length + ((cmpL (p + t.length + s.length + 2) r).length + 1) + 1)) by omega]
theorem cmpL_n {p : Nat} {s : List Tok} : cmpL p [(none, s)] = s.map enc ++ [11059] := rfl
theorem cmpL_t {p : Nat} {t s : List Tok} : cmpL p [(some t, s)] = t.map enc ++ (12000 + ((p + t.length + s.length + 2 : Nat) : Int)) :: (s.map enc ++ [11059]) := rfl
def RC (g : Nat → Int) (N : Nat) (μ : Mm) (l : List Cl) (x : PC1) (r : Int) (m : Mm) : Prop := match x with
  | (q, none) => r = 0 ∧ LB g N μ m q
  | (q, some c) => r = 1 ∧ LG g N μ m q (cmpL 0 (l ++ [c])) ∧ (cmpL 0 (l ++ [c])).length ≤ q
theorem RC.mk0 {g : Nat → Int} {N q : Nat} {μ m : Mm} {l : List Cl} {x : PC1} (e : x = (q, none)) (h : LB g N μ m q) : RC g N μ l x 0 m := by rw [e]; exact ⟨rfl, h⟩
theorem RC.mk1 {g : Nat → Int} {N q : Nat} {μ m : Mm} {l : List Cl} {x : PC1} {c : Cl} (e : x = (q, some c)) (h : LG g N μ m q (cmpL 0 (l ++ [c]))) (h2 : (cmpL 0 (l ++ [c])).length ≤ q) : RC g N μ l x 1 m := by rw [e]; exact ⟨rfl, h, h2⟩
section
variable {g : Nat → Int} {p q : Nat}
theorem pClC_y (h : g p ≠ 121) : pCl g p = (p, none) := by unfold pCl; rw [if_pos h]
theorem pClC_k (h : g p = 121) (h2 : g (sk g (p + 1)) ≠ 58) : pCl g p = (sk g (p + 1), none) := by unfold pCl; rw [if_neg (fun z => z h), if_pos h2]
theorem pClC_t (h : g p = 121) (h2 : g (sk g (p + 1)) = 58) (h3 : g (sk g (sk g (p + 1) + 1)) = 33 ∨ g (sk g (sk g (p + 1) + 1)) = 40) : pCl g p = clB g (pCond g 6 (sk g (sk g (p + 1) + 1))) := by unfold pCl; rw [if_neg (fun z => z h), if_neg (fun z => z h2), if_pos h3]
theorem pClC_b (h : g p = 121) (h2 : g (sk g (p + 1)) = 58) (h3 : ¬ (g (sk g (sk g (p + 1) + 1)) = 33 ∨ g (sk g (sk g (p + 1) + 1)) = 40)) (e : pSum g 6 (sk g (sk g (p + 1) + 1)) = (q, none)) : pCl g p = (q, none) := by unfold pCl; rw [if_neg (fun z => z h), if_neg (fun z => z h2), if_neg h3, e]
theorem pClC_n {c : List Tok} (h : g p = 121) (h2 : g (sk g (p + 1)) = 58) (h3 : ¬ (g (sk g (sk g (p + 1) + 1)) = 33 ∨ g (sk g (sk g (p + 1) + 1)) = 40)) (e : pSum g 6 (sk g (sk g (p + 1) + 1)) = (q, some c)) (h4 : sepR (g q) = none) : pCl g p = (q, some (none, c)) := by unfold pCl; rw [if_neg (fun z => z h), if_neg (fun z => z h2), if_neg h3, e]; simp only [if_pos h4]
theorem pClC_c {c : List Tok} (h : g p = 121) (h2 : g (sk g (p + 1)) = 58) (h3 : ¬ (g (sk g (sk g (p + 1) + 1)) = 33 ∨ g (sk g (sk g (p + 1) + 1)) = 40)) (e : pSum g 6 (sk g (sk g (p + 1) + 1)) = (q, some c)) (h4 : sepR (g q) ≠ none) : pCl g p = clB g (mpre c (cndF g (pUnit g 6) (pCmp g 6 q []))) := by
  unfold pCl
  rw [if_neg (fun z => z h), if_neg (fun z => z h2), if_neg h3, e]
  simp only [if_neg h4]
  rw [cond_F, cmp_pre, cnd_pre]
theorem clBC_n {x : PR} (h : x = (q, none)) : clB g x = (q, none) := by rw [h]; rfl
theorem clBC_q {x : PR} {c : List Tok} (h : x = (q, some c)) (h2 : g q ≠ 63) : clB g x = (q, none) := by rw [h]; unfold clB; simp only [if_neg h2]
theorem clBC_b {x : PR} {c : List Tok} {q2 : Nat} (h : x = (q, some c)) (h2 : g q = 63) (e : pSum g 6 (sk g (q + 1)) = (q2, none)) : clB g x = (q2, none) := by rw [h]; unfold clB; simp only [if_pos h2, e]
theorem clBC_g {x : PR} {c c2 : List Tok} {q2 : Nat} (h : x = (q, some c)) (h2 : g q = 63) (e : pSum g 6 (sk g (q + 1)) = (q2, some c2)) : clB g x = (q2, some (some c, c2)) := by rw [h]; unfold clB; simp only [if_pos h2, e]
end
theorem gqCmp (r : Nat) : GQ (fun g p => pCmp g r p []) := by
  intro g N hG p hp
  show (∀ q, pCmp g r p [] = (q, none) → p ≤ q ∧ q ≤ N) ∧ (∀ q c, pCmp g r p [] = (q, some c) → p < q ∧ q ≤ N ∧ sk g q = q ∧ p + c.length ≤ q ∧ True)
  cases hs : sepR (g p) with
  | none =>
    rw [pCmp_n hs]
    exact ⟨fun q e => (by simp only [Prod.mk.injEq, and_true] at e; omega), fun q c e => (by simp at e)⟩
  | some op =>
    have hlt := hG.lt (p := p) (sgR.2 _ op hs).2.1
    have h1 := sk_ge g (p + 1)
    have hi := pSum_G hG r (sk g (p + 1)) (sk_le hG (by omega))
    rcases h : pSum g r (sk g (p + 1)) with ⟨q3, _ | c3⟩
    · have := hi.1 q3 h
      rw [pCmp_b hs h]
      exact ⟨fun q e => (by simp only [Prod.mk.injEq, and_true] at e; omega), fun q c e => (by simp at e)⟩
    · obtain ⟨a1, a2, a3, a4, -⟩ := hi.2 q3 c3 h
      rw [pCmp_g hs h]
      refine ⟨fun q e => (by simp at e), fun q c e => ?_⟩
      simp only [Prod.mk.injEq, Option.some.injEq, List.nil_append] at e
      obtain ⟨rfl, rfl⟩ := e
      refine ⟨by omega, a2, a3, ?_, trivial⟩
      rw [List.length_append]; simp only [List.length_cons, List.length_nil]; omega
theorem cnd_G {g : Nat → Int} {N p : Nat} (hG : Gok g N) {x : PR} (hx : ∀ q c, x = (q, some c) → p < q ∧ q ≤ N ∧ sk g q = q ∧ p + c.length ≤ q ∧ True) {q : Nat} {c : List Tok} (e : cndF g (pUnit g 6) x = (q, some c)) : p < q ∧ q ≤ N ∧ sk g q = q ∧ p + c.length ≤ q := by
  unfold cndF at e
  rcases hu : uns g (pUnit g 6) 241 [] (-1) x with ⟨q0, _ | c0⟩
  · rw [trs_b hu] at e; simp at e
  · obtain ⟨a1, a2, a3, a4⟩ := uns_G hG (gqUnit 6 g N hG) hx hu
    rw [trs_g hu, opT_n sgO.1, List.append_nil, List.nil_append] at e
    have := (rest_G hG (((gqUnit 6).chn sgN.1) g N hG) (W := fun _ => True) sgO.1 (fun _ _ _ _ _ _ _ => trivial) 241 q0 c0 a2 (by have := hG.1; omega) a3 trivial).2 q c e
    omega
theorem dX4_skipToEnd_0 : decode cX4_skipToEnd 0 = .ok (.iload_n 1, 1) := by decide +kernel
theorem dX4_skipToEnd_1 : decode cX4_skipToEnd 1 = .ok (.ifCond .lt 25, 3) := by decide +kernel
theorem dX4_skipToEnd_4 : decode cX4_skipToEnd 4 = .ok (.iload_n 1, 1) := by decide +kernel
theorem dX4_skipToEnd_5 : decode cX4_skipToEnd 5 = .ok (.aload_n 0, 1) := by decide +kernel
theorem dX4_skipToEnd_6 : decode cX4_skipToEnd 6 = .ok (.getfield 18, 3) := by decide +kernel
theorem dX4_skipToEnd_9 : decode cX4_skipToEnd 9 = .ok (.if_icmp .ge 17, 3) := by decide +kernel
theorem dX4_skipToEnd_12 : decode cX4_skipToEnd 12 = .ok (.aload_n 0, 1) := by decide +kernel
theorem dX4_skipToEnd_13 : decode cX4_skipToEnd 13 = .ok (.getfield 11, 3) := by decide +kernel
theorem dX4_skipToEnd_16 : decode cX4_skipToEnd 16 = .ok (.iload_n 1, 1) := by decide +kernel
theorem dX4_skipToEnd_17 : decode cX4_skipToEnd 17 = .ok (.sipush 12000, 3) := by decide +kernel
theorem dX4_skipToEnd_20 : decode cX4_skipToEnd 20 = .ok (.aload_n 0, 1) := by decide +kernel
theorem dX4_skipToEnd_21 : decode cX4_skipToEnd 21 = .ok (.getfield 18, 3) := by decide +kernel
theorem dX4_skipToEnd_24 : decode cX4_skipToEnd 24 = .ok (.iadd, 1) := by decide +kernel
theorem dX4_skipToEnd_25 : decode cX4_skipToEnd 25 = .ok (.iastore, 1) := by decide +kernel
theorem dX4_skipToEnd_26 : decode cX4_skipToEnd 26 = .ok (.return_, 1) := by decide +kernel
set_option maxHeartbeats 4000000 in
set_option maxRecDepth 100000 in
theorem cT_skip {μ : Mm} {n k : Nat} (hn : μ.1 9 2 = (n : Int)) (hn2 : n ≤ 240) (hk : k < n) : CtV PC 0 yX4_skipToEnd cX4_skipToEnd 2 none [vR 9, vI ((k : Nat) : Int)] μ (fun m => m = mst μ 10 k (12000 + ((n : Nat) : Int))) := by
  refine ct_intro [some (vR 9), some (vI ((k : Nat) : Int))] RX4 (by decide) rfl XCo rfl (Nat.le_of_ble_eq_true rfl) (fun K hO => ?_)
  refine aw_iload_n hO dX4_skipToEnd_0 rfl rfl ?_
  refine aw_if_lt (tgt := 26) hO dX4_skipToEnd_1 rfl rfl (inRn (by omega)) (fun c1 => ?_) (fun c1 => ?_)
  · exact absurd c1 (by omega)
  · refine aw_iload_n hO dX4_skipToEnd_4 rfl rfl ?_
    refine aw_aload_n hO dX4_skipToEnd_5 rfl rfl ?_
    refine gC_X4_18_9 hO dX4_skipToEnd_6 rfl ?_
    refine aw_cg hn ?_
    refine aw_icmp_ge (tgt := 26) hO dX4_skipToEnd_9 rfl rfl (inRn (by omega)) (inRn (by omega)) (fun c9 => ?_) (fun c9 => ?_)
    · exact absurd c9 (by omega)
    · refine aw_aload_n hO dX4_skipToEnd_12 rfl rfl ?_
      refine gC_X4_11_9 hO dX4_skipToEnd_13 rfl ?_
      refine aw_iload_n hO dX4_skipToEnd_16 rfl rfl ?_
      refine aw_sipush hO dX4_skipToEnd_17 rfl (by decide) (by decide) ?_
      refine aw_aload_n hO dX4_skipToEnd_20 rfl rfl ?_
      refine gC_X4_18_9 hO dX4_skipToEnd_21 rfl ?_
      refine aw_cg hn ?_
      refine aw_iadd hO dX4_skipToEnd_24 rfl ?_
      refine aw_iastn (N := 240) (i := k) hO dX4_skipToEnd_25 rfl (by decide) rfl (by decide) rfl (by omega) ?_
      refine aw_mm (fun μ1 e_μ1 => ?_)
      refine aw_vret hO dX4_skipToEnd_26 ?_
      exact ⟨rfl, e_μ1⟩
theorem dX5_readClause_0 : decode cX5_readClause 0 = .ok (.aload_n 0, 1) := by decide +kernel
theorem dX5_readClause_1 : decode cX5_readClause 1 = .ok (.getfield 18, 3) := by decide +kernel
theorem dX5_readClause_4 : decode cX5_readClause 4 = .ok (.bipush 121, 2) := by decide +kernel
theorem dX5_readClause_6 : decode cX5_readClause 6 = .ok (.invokevirtual 38, 3) := by decide +kernel
theorem dX5_readClause_9 : decode cX5_readClause 9 = .ok (.ifCond .eq 15, 3) := by decide +kernel
theorem dX5_readClause_12 : decode cX5_readClause 12 = .ok (.aload_n 0, 1) := by decide +kernel
theorem dX5_readClause_13 : decode cX5_readClause 13 = .ok (.getfield 18, 3) := by decide +kernel
theorem dX5_readClause_16 : decode cX5_readClause 16 = .ok (.bipush 58, 2) := by decide +kernel
theorem dX5_readClause_18 : decode cX5_readClause 18 = .ok (.invokevirtual 38, 3) := by decide +kernel
theorem dX5_readClause_21 : decode cX5_readClause 21 = .ok (.ifCond .ne 5, 3) := by decide +kernel
theorem dX5_readClause_24 : decode cX5_readClause 24 = .ok (.iconst 0, 1) := by decide +kernel
theorem dX5_readClause_25 : decode cX5_readClause 25 = .ok (.ireturn, 1) := by decide +kernel
theorem dX5_readClause_26 : decode cX5_readClause 26 = .ok (.aload_n 0, 1) := by decide +kernel
theorem dX5_readClause_27 : decode cX5_readClause 27 = .ok (.getfield 18, 3) := by decide +kernel
theorem dX5_readClause_30 : decode cX5_readClause 30 = .ok (.invokevirtual 42, 3) := by decide +kernel
theorem dX5_readClause_33 : decode cX5_readClause 33 = .ok (.bipush 33, 2) := by decide +kernel
theorem dX5_readClause_35 : decode cX5_readClause 35 = .ok (.if_icmp .eq 19, 3) := by decide +kernel
theorem dX5_readClause_38 : decode cX5_readClause 38 = .ok (.aload_n 0, 1) := by decide +kernel
theorem dX5_readClause_39 : decode cX5_readClause 39 = .ok (.getfield 18, 3) := by decide +kernel
theorem dX5_readClause_42 : decode cX5_readClause 42 = .ok (.invokevirtual 42, 3) := by decide +kernel
theorem dX5_readClause_45 : decode cX5_readClause 45 = .ok (.bipush 40, 2) := by decide +kernel
theorem dX5_readClause_47 : decode cX5_readClause 47 = .ok (.if_icmp .eq 7, 3) := by decide +kernel
theorem dX5_readClause_50 : decode cX5_readClause 50 = .ok (.iconst 1, 1) := by decide +kernel
theorem dX5_readClause_51 : decode cX5_readClause 51 = .ok (.goto 4, 3) := by decide +kernel
theorem dX5_readClause_54 : decode cX5_readClause 54 = .ok (.iconst 0, 1) := by decide +kernel
theorem dX5_readClause_55 : decode cX5_readClause 55 = .ok (.istore_n 1, 1) := by decide +kernel
theorem dX5_readClause_56 : decode cX5_readClause 56 = .ok (.iload_n 1, 1) := by decide +kernel
theorem dX5_readClause_57 : decode cX5_readClause 57 = .ok (.ifCond .eq 13, 3) := by decide +kernel
theorem dX5_readClause_60 : decode cX5_readClause 60 = .ok (.aload_n 0, 1) := by decide +kernel
theorem dX5_readClause_61 : decode cX5_readClause 61 = .ok (.iconst 0, 1) := by decide +kernel
theorem dX5_readClause_62 : decode cX5_readClause 62 = .ok (.invokevirtual 46, 3) := by decide +kernel
theorem dX5_readClause_65 : decode cX5_readClause 65 = .ok (.ifCond .ne 5, 3) := by decide +kernel
theorem dX5_readClause_68 : decode cX5_readClause 68 = .ok (.iconst 0, 1) := by decide +kernel
theorem dX5_readClause_69 : decode cX5_readClause 69 = .ok (.ireturn, 1) := by decide +kernel
theorem dX5_readClause_70 : decode cX5_readClause 70 = .ok (.iload_n 1, 1) := by decide +kernel
theorem dX5_readClause_71 : decode cX5_readClause 71 = .ok (.ifCond .eq 28, 3) := by decide +kernel
theorem dX5_readClause_74 : decode cX5_readClause 74 = .ok (.aload_n 0, 1) := by decide +kernel
theorem dX5_readClause_75 : decode cX5_readClause 75 = .ok (.getfield 18, 3) := by decide +kernel
theorem dX5_readClause_78 : decode cX5_readClause 78 = .ok (.invokevirtual 42, 3) := by decide +kernel
theorem dX5_readClause_81 : decode cX5_readClause 81 = .ok (.invokestatic 50, 3) := by decide +kernel
theorem dX5_readClause_84 : decode cX5_readClause 84 = .ok (.ifCond .ne 15, 3) := by decide +kernel
theorem dX5_readClause_87 : decode cX5_readClause 87 = .ok (.aload_n 0, 1) := by decide +kernel
theorem dX5_readClause_88 : decode cX5_readClause 88 = .ok (.getfield 12, 3) := by decide +kernel
theorem dX5_readClause_91 : decode cX5_readClause 91 = .ok (.sipush 11059, 3) := by decide +kernel
theorem dX5_readClause_94 : decode cX5_readClause 94 = .ok (.invokevirtual 53, 3) := by decide +kernel
theorem dX5_readClause_97 : decode cX5_readClause 97 = .ok (.iconst 1, 1) := by decide +kernel
theorem dX5_readClause_98 : decode cX5_readClause 98 = .ok (.ireturn, 1) := by decide +kernel
theorem dX5_readClause_99 : decode cX5_readClause 99 = .ok (.aload_n 0, 1) := by decide +kernel
theorem dX5_readClause_100 : decode cX5_readClause 100 = .ok (.iconst 0, 1) := by decide +kernel
theorem dX5_readClause_101 : decode cX5_readClause 101 = .ok (.iload_n 1, 1) := by decide +kernel
theorem dX5_readClause_102 : decode cX5_readClause 102 = .ok (.invokevirtual 57, 3) := by decide +kernel
theorem dX5_readClause_105 : decode cX5_readClause 105 = .ok (.ifCond .eq 15, 3) := by decide +kernel
theorem dX5_readClause_108 : decode cX5_readClause 108 = .ok (.aload_n 0, 1) := by decide +kernel
theorem dX5_readClause_109 : decode cX5_readClause 109 = .ok (.getfield 18, 3) := by decide +kernel
theorem dX5_readClause_112 : decode cX5_readClause 112 = .ok (.bipush 63, 2) := by decide +kernel
theorem dX5_readClause_114 : decode cX5_readClause 114 = .ok (.invokevirtual 38, 3) := by decide +kernel
theorem dX5_readClause_117 : decode cX5_readClause 117 = .ok (.ifCond .ne 5, 3) := by decide +kernel
theorem dX5_readClause_120 : decode cX5_readClause 120 = .ok (.iconst 0, 1) := by decide +kernel
theorem dX5_readClause_121 : decode cX5_readClause 121 = .ok (.ireturn, 1) := by decide +kernel
theorem dX5_readClause_122 : decode cX5_readClause 122 = .ok (.aload_n 0, 1) := by decide +kernel
theorem dX5_readClause_123 : decode cX5_readClause 123 = .ok (.getfield 12, 3) := by decide +kernel
theorem dX5_readClause_126 : decode cX5_readClause 126 = .ok (.getfield 22, 3) := by decide +kernel
theorem dX5_readClause_129 : decode cX5_readClause 129 = .ok (.istore_n 2, 1) := by decide +kernel
theorem dX5_readClause_130 : decode cX5_readClause 130 = .ok (.aload_n 0, 1) := by decide +kernel
theorem dX5_readClause_131 : decode cX5_readClause 131 = .ok (.getfield 12, 3) := by decide +kernel
theorem dX5_readClause_134 : decode cX5_readClause 134 = .ok (.sipush 12000, 3) := by decide +kernel
theorem dX5_readClause_137 : decode cX5_readClause 137 = .ok (.invokevirtual 53, 3) := by decide +kernel
theorem dX5_readClause_140 : decode cX5_readClause 140 = .ok (.aload_n 0, 1) := by decide +kernel
theorem dX5_readClause_141 : decode cX5_readClause 141 = .ok (.iconst 0, 1) := by decide +kernel
theorem dX5_readClause_142 : decode cX5_readClause 142 = .ok (.invokevirtual 46, 3) := by decide +kernel
theorem dX5_readClause_145 : decode cX5_readClause 145 = .ok (.ifCond .ne 5, 3) := by decide +kernel
theorem dX5_readClause_148 : decode cX5_readClause 148 = .ok (.iconst 0, 1) := by decide +kernel
theorem dX5_readClause_149 : decode cX5_readClause 149 = .ok (.ireturn, 1) := by decide +kernel
theorem dX5_readClause_150 : decode cX5_readClause 150 = .ok (.aload_n 0, 1) := by decide +kernel
theorem dX5_readClause_151 : decode cX5_readClause 151 = .ok (.getfield 12, 3) := by decide +kernel
theorem dX5_readClause_154 : decode cX5_readClause 154 = .ok (.sipush 11059, 3) := by decide +kernel
theorem dX5_readClause_157 : decode cX5_readClause 157 = .ok (.invokevirtual 53, 3) := by decide +kernel
theorem dX5_readClause_160 : decode cX5_readClause 160 = .ok (.aload_n 0, 1) := by decide +kernel
theorem dX5_readClause_161 : decode cX5_readClause 161 = .ok (.getfield 12, 3) := by decide +kernel
theorem dX5_readClause_164 : decode cX5_readClause 164 = .ok (.iload_n 2, 1) := by decide +kernel
theorem dX5_readClause_165 : decode cX5_readClause 165 = .ok (.invokevirtual 61, 3) := by decide +kernel
theorem dX5_readClause_168 : decode cX5_readClause 168 = .ok (.iconst 1, 1) := by decide +kernel
theorem dX5_readClause_169 : decode cX5_readClause 169 = .ok (.ireturn, 1) := by decide +kernel
set_option maxRecDepth 100000 in
theorem gC_X5_22_9 {Q : Option AV → Mm → Prop} {K : KT} {cc : ByteArray} {nL d : Nat} {ret : Option FieldType} {pc n : Nat} {ls : List (Option AV)} {st : List AV} {μ : Mm} (hO : KOk PC Q K cc RX5 nL d ret) (hd : decode cc pc = .ok (.getfield 22, 3)) (hn : pc + 3 = n) (kk : AW K n ls (vI (μ.1 9 2) :: st) μ) : AW K pc ls (vR 9 :: st) μ := aw_getN (f := 2) hO hd hn okX4 (by decide) (lw_t1n 123 rfl rfl) (by decide) rfl rfl rfl kk
set_option maxHeartbeats 4000000 in
set_option maxRecDepth 100000 in
theorem cT_readClauseL {μ : Mm} {g : Nat → Int} {N p : Nat} {l : List Cl} (h : TO g N μ) (ha : μ.1 1 3 = (p : Int)) (haN : p ≤ N) (hsp : sk g p = p) (hX : Dr μ (cmpL 0 l)) (hXp : (cmpL 0 l).length ≤ p) : CtE PC 20 yX5_readClause cX5_readClause 3 (some .boolean) [vR 8] μ (fun r m => RC g N μ l (pCl g p) r m) := by
  refine ct_intro [some (vR 8), none, none] RX5 (by decide) rfl XCo rfl (Nat.le_of_ble_eq_true rfl) (fun K hO => ?_)
  have hG := h.G
  have hN := hG.1
  have hgr := hG.rng p
  obtain ⟨X, hXe⟩ : ∃ X, X = cmpL 0 l := ⟨_, rfl⟩
  rw [← hXe] at hX hXp
  have hLG : LG g N μ μ p X := ⟨Fr.rf, h, ha, hX⟩
  have hLB : LB g N μ μ p := hLG.B (by omega)
  have k108 : ∀ (q : Nat) (z : Int) (t : List Tok) (m : Mm), q ≤ N → sk g q = q → X.length + t.length + 2 ≤ q → LG g N μ m q (X ++ t.map enc) → (pCl g p) = clB g (q, some t) → AW K 108 [some (vR 8), some (vI z), none] [] m := by
    intro q z t m hqN hsk hlen hL hsp2
    refine aw_aload_n hO dX5_readClause_108 rfl rfl ?_
    refine gC_X5_18_8 hO dX5_readClause_109 rfl ?_
    refine aw_bipush hO dX5_readClause_112 rfl (by decide) (by decide) ?_
    refine aw_callVE (as := [vI 63]) (st := []) hO dX5_readClause_114 rfl (lw_t3 16 rfl rfl) kX8_takes (T := TX8) rfl (by decide) rfl (cT_takes hL.2.1 hL.2.2.1 hqN (c := 63) (by omega) (by omega)) (by decide) rfl rfl rfl (Nat.le_of_ble_eq_true rfl) (fun v1 μ2 hq3 => ?_)
    obtain ⟨e_v1, e_μ2⟩ := hq3
    refine aw_if_ne (tgt := 122) hO dX5_readClause_117 rfl rfl ⟨by omega, by omega⟩ (fun c117 => ?_) (fun c117 => ?_)
    · have h63 : g q = 63 := by by_cases e : g q = 63; exact e; rw [if_neg e] at e_v1; exact absurd e_v1 c117
      rw [if_pos h63] at e_μ2
      have hlt := hG.lt (p := q) (by omega)
      have hPN := sk_le hG (p := q + 1) (by omega)
      have hP1 := sk_ge g (q + 1)
      have hLt : LG g N μ μ2 (sk g (q + 1)) (X ++ t.map enc) := by rw [e_μ2]; exact hL.tk
      have hXt : (X ++ t.map enc).length = X.length + t.length := by rw [List.length_append, List.length_map]
      have hsz : μ2.1 9 2 = ((X.length + t.length : Nat) : Int) := by rw [← hXt]; exact hLt.2.2.2.1
      refine aw_aload_n hO dX5_readClause_122 rfl rfl ?_
      refine gC_X5_12_8 hO dX5_readClause_123 rfl ?_
      refine gC_X5_22_9 hO dX5_readClause_126 rfl ?_
      refine aw_cg hsz ?_
      refine aw_istore_n (ls' := [some (vR 8), some (vI z), some (vI (((X.length + t.length) : Nat) : Int))]) hO dX5_readClause_129 rfl (Nat.le_of_ble_eq_true rfl) rfl rfl ?_
      refine aw_aload_n hO dX5_readClause_130 rfl rfl ?_
      refine gC_X5_12_8 hO dX5_readClause_131 rfl ?_
      refine aw_sipush hO dX5_readClause_134 rfl (by decide) (by decide) ?_
      refine aw_callVV (as := [vI 12000]) (st := []) hO dX5_readClause_137 rfl (lw_t3 28 rfl rfl) kX4_add (T := TX4) rfl (by decide) rfl (cT_add (hLt.2.2.2.B (by omega)) 12000) (by decide) rfl rfl rfl (Nat.le_of_ble_eq_true rfl) (fun μ5 hq6 => ?_)
      have e_μ5 := hq6
      have hL3 : LG g N μ μ5 (sk g (q + 1)) (X ++ t.map enc ++ [12000]) := by rw [e_μ5]; exact hLt.ad (by omega) _
      refine aw_aload_n hO dX5_readClause_140 rfl rfl ?_
      refine aw_iconst hO dX5_readClause_141 rfl ?_
      refine aw_callVE (as := [vI ((0 : Nat) : Int)]) (st := []) hO dX5_readClause_142 rfl (lw_t3 18 rfl rfl) kX5_readSum (T := TX5) rfl (by decide) rfl (cT_readSum 6 0 rfl μ5 g N (sk g (q + 1)) _ hL3.2.1 hL3.2.2.1 hPN (sk_sk hG _) hL3.2.2.2 (by simp only [List.length_append, List.length_map, List.length_cons, List.length_nil]; omega)) (by decide) rfl rfl rfl (Nat.le_of_ble_eq_true rfl) (fun v7 μ8 hq9 => ?_)
      have hRs : RO g N μ (X ++ t.map enc ++ [12000]) (pSum g 6 (sk g (q + 1))) v7 μ8 := RO.tr hq9 hL3.1
      have hvz := hRs.z
      refine aw_if_ne (tgt := 150) hO dX5_readClause_145 rfl rfl ⟨by omega, by omega⟩ (fun c145 => ?_) (fun c145 => ?_)
      · obtain ⟨q4, s, hq4, hL4⟩ := hRs.yes c145
        obtain ⟨b1, b2, b3, b4, -⟩ := (gqSum 6 g N hG _ hPN).2 q4 s hq4
        refine aw_aload_n hO dX5_readClause_150 rfl rfl ?_
        refine gC_X5_12_8 hO dX5_readClause_151 rfl ?_
        refine aw_sipush hO dX5_readClause_154 rfl (by decide) (by decide) ?_
        refine aw_callVV (as := [vI 11059]) (st := []) hO dX5_readClause_157 rfl (lw_t3 28 rfl rfl) kX4_add (T := TX4) rfl (by decide) rfl (cT_add (hL4.2.2.2.B (by simp only [List.length_append, List.length_map, List.length_cons, List.length_nil]; omega)) 11059) (by decide) rfl rfl rfl (Nat.le_of_ble_eq_true rfl) (fun μ11 hq12 => ?_)
        have e_μ11 := hq12
        have hL5 : LG g N μ μ11 q4 (X ++ t.map enc ++ [12000] ++ s.map enc ++ [11059]) := by rw [e_μ11]; exact hL4.ad (by simp only [List.length_append, List.length_map, List.length_cons, List.length_nil]; omega) _
        have hsz5 : μ11.1 9 2 = ((X.length + t.length + s.length + 2 : Nat) : Int) := by rw [hL5.2.2.2.1]; simp only [List.length_append, List.length_map, List.length_cons, List.length_nil]; omega
        refine aw_aload_n hO dX5_readClause_160 rfl rfl ?_
        refine gC_X5_12_8 hO dX5_readClause_161 rfl ?_
        refine aw_iload_n hO dX5_readClause_164 rfl rfl ?_
        refine aw_callVV (as := [vI (((X.length + t.length) : Nat) : Int)]) (st := []) hO dX5_readClause_165 rfl (lw_t3 49 rfl rfl) kX4_skipToEnd (T := TX4) rfl (by decide) rfl (cT_skip hsz5 (by omega) (k := X.length + t.length) (by omega)) (by decide) rfl rfl rfl (Nat.le_of_ble_eq_true rfl) (fun μ14 hq15 => ?_)
        have e_μ14 := hq15
        refine aw_iconst hO dX5_readClause_168 rfl ?_
        refine aw_zret hO dX5_readClause_169 (Or.inr rfl) ?_
        have hcm : cmpL 0 (l ++ [(some t, s)]) = X ++ (t.map enc ++ (12000 + ((X.length + t.length + s.length + 2 : Nat) : Int)) :: (s.map enc ++ [11059])) := by rw [cmpL_app, cmpL_t, ← hXe, Nat.zero_add]
        have hlen2 : (cmpL 0 (l ++ [(some t, s)])).length = X.length + t.length + s.length + 2 := by rw [hcm]; simp only [List.length_append, List.length_map, List.length_cons, List.length_nil]; omega
        refine ⟨_, rfl, RC.mk1 (q := q4) (c := (some t, s)) (by rw [hsp2, clBC_g rfl h63 hq4]) ⟨by rw [e_μ14]; exact hL5.1.st (Or.inr (Or.inr rfl)) _, by rw [e_μ14]; exact hL5.2.1.ds (Fr.rf.st (Or.inr (Or.inr rfl)) _), by rw [e_μ14, mst_nk (by decide)]; exact hL5.2.2.1, by rw [hlen2, e_μ14, mst_nk (by decide)]; exact hsz5, ?_⟩ (by rw [hlen2]; omega)⟩
        have h5 := hL5.2.2.2.2
        rw [hcm, e_μ14]
        have e5 : X ++ t.map enc ++ [12000] ++ s.map enc ++ [11059] = (X ++ t.map enc) ++ (12000 :: (s.map enc ++ [11059])) := by simp only [List.append_assoc, List.cons_append, List.nil_append]
        rw [e5] at h5
        obtain ⟨g1, g2⟩ := h5.app
        rw [hXt, Nat.zero_add] at g2
        rw [← List.append_assoc]
        refine At.mk (g1.of (fun j _ hj => by rw [hXt] at hj; rw [mst_ni (by omega)])) ?_
        rw [hXt, Nat.zero_add]
        exact ⟨by rw [mst_eq], g2.2.of (fun j hj _ => by rw [mst_ni (by omega)])⟩
      · refine aw_iconst hO dX5_readClause_148 rfl ?_
        refine aw_zret hO dX5_readClause_149 (Or.inl rfl) ?_
        obtain ⟨q4, hq4, hB⟩ := hRs.no c145
        exact ⟨_, rfl, RC.mk0 (q := q4) (by rw [hsp2, clBC_b rfl h63 hq4]) hB⟩
    · have h63 : ¬ g q = 63 := fun e => by rw [if_pos e] at e_v1; omega
      rw [if_neg h63] at e_μ2
      refine aw_iconst hO dX5_readClause_120 rfl ?_
      refine aw_zret hO dX5_readClause_121 (Or.inl rfl) ?_
      exact ⟨_, rfl, RC.mk0 (q := q) (by rw [hsp2, clBC_q rfl h63]) (by rw [e_μ2]; exact hL.B (by rw [List.length_append, List.length_map]; omega))⟩
  have k99 : ∀ (z : Int) (U0 : (Nat → Int) → Nat → PR) (p2 : Nat) (Y : List Tok) (m : Mm), CR 18 yX5_readUnit cX5_readUnit 5 [vR 8, vI ((0 : Nat) : Int), vI z] U0 → GQ U0 → p2 ≤ N → sk g p2 = p2 → X.length + Y.length + 2 ≤ p2 → LG g N μ m p2 (X ++ Y.map enc) → (pCl g p) = clB g (mpre Y (cndF g (pUnit g 6) (U0 g p2))) → AW K 99 [some (vR 8), some (vI z), none] [] m := by
    intro z U0 p2 Y m hU0 hGU0 hp2 hsk hlen hL hsp2
    refine aw_aload_n hO dX5_readClause_99 rfl rfl ?_
    refine aw_iconst hO dX5_readClause_100 rfl ?_
    refine aw_iload_n hO dX5_readClause_101 rfl rfl ?_
    refine aw_callVE (as := [vI ((0 : Nat) : Int), vI z]) (st := []) hO dX5_readClause_102 rfl (lw_t3 41 rfl rfl) kX5_readCondition (T := TX5) rfl (by decide) rfl (cT_readCond0 (by omega) hGU0 (gqUnit 6) hU0 (cT_readUnit 6 0 rfl) m g N p2 _ hL.2.1 hL.2.2.1 hp2 hsk hL.2.2.2 (by rw [List.length_append, List.length_map]; omega)) (by decide) rfl rfl rfl (Nat.le_of_ble_eq_true rfl) (fun v16 μ17 hq18 => ?_)
    have hRs : RO g N μ (X ++ Y.map enc) (cndF g (pUnit g 6) (U0 g p2)) v16 μ17 := RO.tr hq18 hL.1
    have hvz := hRs.z
    refine aw_if_eq (tgt := 120) hO dX5_readClause_105 rfl rfl ⟨by omega, by omega⟩ (fun c105 => ?_) (fun c105 => ?_)
    · refine aw_iconst hO dX5_readClause_120 rfl ?_
      refine aw_zret hO dX5_readClause_121 (Or.inl rfl) ?_
      obtain ⟨q, hq, hB⟩ := hRs.no c105
      exact ⟨_, rfl, RC.mk0 (q := q) (by rw [hsp2, hq]; rfl) hB⟩
    · obtain ⟨q, c, hq, hL2⟩ := hRs.yes c105
      obtain ⟨b1, b2, b3, b4⟩ := cnd_G hG (fun q c e => (hGU0 g N hG p2 hp2).2 q c e) hq
      exact k108 q z (Y ++ c) μ17 b2 b3 (by rw [List.length_append]; omega) (by rw [List.map_append, ← List.append_assoc]; exact hL2) (by rw [hsp2, hq]; rfl)
  refine aw_aload_n hO dX5_readClause_0 rfl rfl ?_
  refine gC_X5_18_8 hO dX5_readClause_1 rfl ?_
  refine aw_bipush hO dX5_readClause_4 rfl (by decide) (by decide) ?_
  refine aw_callVE (as := [vI 121]) (st := []) hO dX5_readClause_6 rfl (lw_t3 16 rfl rfl) kX8_takes (T := TX8) rfl (by decide) rfl (cT_takes h ha haN (c := 121) (by omega) (by omega)) (by decide) rfl rfl rfl (Nat.le_of_ble_eq_true rfl) (fun v19 μ20 hq21 => ?_)
  obtain ⟨e_v19, e_μ20⟩ := hq21
  refine aw_if_eq (tgt := 24) hO dX5_readClause_9 rfl rfl ⟨by omega, by omega⟩ (fun c9 => ?_) (fun c9 => ?_)
  · have h121 : ¬ g p = 121 := fun e => by rw [if_pos e] at e_v19; omega
    rw [if_neg h121] at e_μ20
    refine aw_iconst hO dX5_readClause_24 rfl ?_
    refine aw_zret hO dX5_readClause_25 (Or.inl rfl) ?_
    exact ⟨_, rfl, RC.mk0 (q := p) (pClC_y h121) (by rw [e_μ20]; exact hLB)⟩
  · have h121 : g p = 121 := by by_cases e : g p = 121; exact e; rw [if_neg e] at e_v19; exact absurd e_v19 c9
    rw [if_pos h121] at e_μ20
    have hlt := hG.lt (p := p) (by omega)
    have hP1N := sk_le hG (p := p + 1) (by omega)
    have hP1 := sk_ge g (p + 1)
    have hL1 : LG g N μ μ20 (sk g (p + 1)) X := by rw [e_μ20]; exact hLG.tk
    refine aw_aload_n hO dX5_readClause_12 rfl rfl ?_
    refine gC_X5_18_8 hO dX5_readClause_13 rfl ?_
    refine aw_bipush hO dX5_readClause_16 rfl (by decide) (by decide) ?_
    refine aw_callVE (as := [vI 58]) (st := []) hO dX5_readClause_18 rfl (lw_t3 16 rfl rfl) kX8_takes (T := TX8) rfl (by decide) rfl (cT_takes hL1.2.1 hL1.2.2.1 hP1N (c := 58) (by omega) (by omega)) (by decide) rfl rfl rfl (Nat.le_of_ble_eq_true rfl) (fun v22 μ23 hq24 => ?_)
    obtain ⟨e_v22, e_μ23⟩ := hq24
    refine aw_if_ne (tgt := 26) hO dX5_readClause_21 rfl rfl ⟨by omega, by omega⟩ (fun c21 => ?_) (fun c21 => ?_)
    · have h58 : g (sk g (p + 1)) = 58 := by by_cases e : g (sk g (p + 1)) = 58; exact e; rw [if_neg e] at e_v22; exact absurd e_v22 c21
      rw [if_pos h58] at e_μ23
      have hlt2 := hG.lt (p := sk g (p + 1)) (by omega)
      have hP2N := sk_le hG (p := sk g (p + 1) + 1) (by omega)
      have hP2 := sk_ge g (sk g (p + 1) + 1)
      have hL2 : LG g N μ μ23 (sk g (sk g (p + 1) + 1)) X := by rw [e_μ23]; exact hL1.tk
      have hgr2 := hG.rng (sk g (sk g (p + 1) + 1))
      refine aw_aload_n hO dX5_readClause_26 rfl rfl ?_
      refine gC_X5_18_8 hO dX5_readClause_27 rfl ?_
      refine aw_callVI (as := []) (st := []) hO dX5_readClause_30 rfl (lw_t3 17 rfl rfl) kX8_sign (T := TX8) rfl (by decide) rfl (cT_sign hL2.2.1.1 hL2.2.2.1 hP2N) (by decide) rfl rfl rfl (Nat.le_of_ble_eq_true rfl) ?_
      refine aw_bipush hO dX5_readClause_33 rfl (by decide) (by decide) ?_
      refine aw_icmp_eq (tgt := 54) hO dX5_readClause_35 rfl rfl ⟨by omega, by omega⟩ (inRlit _) (fun c35 => ?_) (fun c35 => ?_)
      · refine aw_iconst hO dX5_readClause_54 rfl ?_
        refine aw_istore_n (ls' := [some (vR 8), some (vI 0), none]) hO dX5_readClause_55 rfl (Nat.le_of_ble_eq_true rfl) rfl rfl ?_
        refine aw_iload_n hO dX5_readClause_56 rfl rfl ?_
        refine aw_if_eq (tgt := 70) hO dX5_readClause_57 rfl rfl (inRlit _) (fun c57 => ?_) (fun c57 => ?_)
        · refine aw_iload_n hO dX5_readClause_70 rfl rfl ?_
          refine aw_if_eq (tgt := 99) hO dX5_readClause_71 rfl rfl (inRlit _) (fun c71 => ?_) (fun c71 => ?_)
          · exact k99 0 (fun g => pUnit g 6) (sk g (sk g (p + 1) + 1)) [] μ23 (cT_readUnit 6 0 rfl) (gqUnit 6) hP2N (sk_sk hG _) (by simp only [List.length_nil]; omega) (by rw [List.map_nil, List.append_nil]; exact hL2) (by rw [pClC_t h121 h58 (Or.inl c35), pCond_eq, cond_F]; show _ = clB g (mpre [] _); rw [show ∀ x : PR, mpre [] x = x from fun x => by rcases x with ⟨a, _ | b⟩ <;> rfl])
          · exact absurd c71 (by omega)
        · exact absurd c57 (by omega)
      · refine aw_aload_n hO dX5_readClause_38 rfl rfl ?_
        refine gC_X5_18_8 hO dX5_readClause_39 rfl ?_
        refine aw_callVI (as := []) (st := []) hO dX5_readClause_42 rfl (lw_t3 17 rfl rfl) kX8_sign (T := TX8) rfl (by decide) rfl (cT_sign hL2.2.1.1 hL2.2.2.1 hP2N) (by decide) rfl rfl rfl (Nat.le_of_ble_eq_true rfl) ?_
        refine aw_bipush hO dX5_readClause_45 rfl (by decide) (by decide) ?_
        refine aw_icmp_eq (tgt := 54) hO dX5_readClause_47 rfl rfl ⟨by omega, by omega⟩ (inRlit _) (fun c47 => ?_) (fun c47 => ?_)
        · refine aw_iconst hO dX5_readClause_54 rfl ?_
          refine aw_istore_n (ls' := [some (vR 8), some (vI 0), none]) hO dX5_readClause_55 rfl (Nat.le_of_ble_eq_true rfl) rfl rfl ?_
          refine aw_iload_n hO dX5_readClause_56 rfl rfl ?_
          refine aw_if_eq (tgt := 70) hO dX5_readClause_57 rfl rfl (inRlit _) (fun c57 => ?_) (fun c57 => ?_)
          · refine aw_iload_n hO dX5_readClause_70 rfl rfl ?_
            refine aw_if_eq (tgt := 99) hO dX5_readClause_71 rfl rfl (inRlit _) (fun c71 => ?_) (fun c71 => ?_)
            · exact k99 0 (fun g => pUnit g 6) (sk g (sk g (p + 1) + 1)) [] μ23 (cT_readUnit 6 0 rfl) (gqUnit 6) hP2N (sk_sk hG _) (by simp only [List.length_nil]; omega) (by rw [List.map_nil, List.append_nil]; exact hL2) (by rw [pClC_t h121 h58 (Or.inr c47), pCond_eq, cond_F]; show _ = clB g (mpre [] _); rw [show ∀ x : PR, mpre [] x = x from fun x => by rcases x with ⟨a, _ | b⟩ <;> rfl])
            · exact absurd c71 (by omega)
          · exact absurd c57 (by omega)
        · refine aw_iconst hO dX5_readClause_50 rfl ?_
          refine aw_goto (tgt := 55) hO dX5_readClause_51 rfl ?_
          have hns : ¬ (g (sk g (sk g (p + 1) + 1)) = 33 ∨ g (sk g (sk g (p + 1) + 1)) = 40) := fun q => q.elim c35 c47
          refine aw_istore_n (ls' := [some (vR 8), some (vI 1), none]) hO dX5_readClause_55 rfl (Nat.le_of_ble_eq_true rfl) rfl rfl ?_
          refine aw_iload_n hO dX5_readClause_56 rfl rfl ?_
          refine aw_if_eq (tgt := 70) hO dX5_readClause_57 rfl rfl (inRlit _) (fun c57 => ?_) (fun c57 => ?_)
          · exact absurd c57 (by omega)
          · refine aw_aload_n hO dX5_readClause_60 rfl rfl ?_
            refine aw_iconst hO dX5_readClause_61 rfl ?_
            refine aw_callVE (as := [vI ((0 : Nat) : Int)]) (st := []) hO dX5_readClause_62 rfl (lw_t3 18 rfl rfl) kX5_readSum (T := TX5) rfl (by decide) rfl (cT_readSum 6 0 rfl μ23 g N (sk g (sk g (p + 1) + 1)) X hL2.2.1 hL2.2.2.1 hP2N (sk_sk hG _) hL2.2.2.2 (by omega)) (by decide) rfl rfl rfl (Nat.le_of_ble_eq_true rfl) (fun v25 μ26 hq27 => ?_)
            have hRs : RO g N μ X (pSum g 6 (sk g (sk g (p + 1) + 1))) v25 μ26 := RO.tr hq27 hL2.1
            have hvz := hRs.z
            refine aw_if_ne (tgt := 70) hO dX5_readClause_65 rfl rfl ⟨by omega, by omega⟩ (fun c65 => ?_) (fun c65 => ?_)
            · obtain ⟨sq, sc, hsq, hLs⟩ := hRs.yes c65
              obtain ⟨b1, b2, b3, b4, -⟩ := (gqSum 6 g N hG _ hP2N).2 sq sc hsq
              have hgr3 := hG.rng sq
              refine aw_iload_n hO dX5_readClause_70 rfl rfl ?_
              refine aw_if_eq (tgt := 99) hO dX5_readClause_71 rfl rfl (inRlit _) (fun c71 => ?_) (fun c71 => ?_)
              · exact absurd c71 (by omega)
              · refine aw_aload_n hO dX5_readClause_74 rfl rfl ?_
                refine gC_X5_18_8 hO dX5_readClause_75 rfl ?_
                refine aw_callVI (as := []) (st := []) hO dX5_readClause_78 rfl (lw_t3 17 rfl rfl) kX8_sign (T := TX8) rfl (by decide) rfl (cT_sign hLs.2.1.1 hLs.2.2.1 b2) (by decide) rfl rfl rfl (Nat.le_of_ble_eq_true rfl) ?_
                refine aw_callSI (as := [vI (g sq)]) (st := []) hO dX5_readClause_81 rfl (lw_t3 38 rfl rfl) kX5_isRelation (cT_isRelation μ26 (c := g sq) ⟨by omega, by omega⟩) (by decide) rfl rfl rfl (Nat.le_of_ble_eq_true rfl) ?_
                refine aw_ifz_ne (tgt := 99) hO dX5_readClause_84 rfl rfl (fun c84 => ?_) (fun c84 => ?_)
                · have hrel : sepR (g sq) ≠ none := fun e => by rw [e] at c84; simp at c84
                  exact k99 1 (fun g p => pCmp g 6 p []) sq sc μ26 (cT_readCmp (r := 6) (d := 0) rfl) (gqCmp 6) b2 b3 (by omega) hLs (pClC_c h121 h58 hns hsq hrel)
                · refine aw_aload_n hO dX5_readClause_87 rfl rfl ?_
                  refine gC_X5_12_8 hO dX5_readClause_88 rfl ?_
                  refine aw_sipush hO dX5_readClause_91 rfl (by decide) (by decide) ?_
                  refine aw_callVV (as := [vI 11059]) (st := []) hO dX5_readClause_94 rfl (lw_t3 28 rfl rfl) kX4_add (T := TX4) rfl (by decide) rfl (cT_add (hLs.2.2.2.B (by rw [List.length_append, List.length_map]; omega)) 11059) (by decide) rfl rfl rfl (Nat.le_of_ble_eq_true rfl) (fun μ29 hq30 => ?_)
                  have e_μ29 := hq30
                  refine aw_iconst hO dX5_readClause_97 rfl ?_
                  refine aw_zret hO dX5_readClause_98 (Or.inr rfl) ?_
                  have hnone : sepR (g sq) = none := by simpa using c84
                  have hcm : cmpL 0 (l ++ [(none, sc)]) = X ++ sc.map enc ++ [11059] := by rw [cmpL_app, cmpL_n, ← hXe, List.append_assoc]
                  exact ⟨_, rfl, RC.mk1 (q := sq) (c := (none, sc)) (pClC_n h121 h58 hns hsq hnone) (by rw [hcm, e_μ29]; exact hLs.ad (by rw [List.length_append, List.length_map]; omega) _) (by rw [hcm]; simp only [List.length_append, List.length_map, List.length_cons, List.length_nil]; omega)⟩
            · refine aw_iconst hO dX5_readClause_68 rfl ?_
              refine aw_zret hO dX5_readClause_69 (Or.inl rfl) ?_
              obtain ⟨sq, hsq, hB⟩ := hRs.no c65
              exact ⟨_, rfl, RC.mk0 (q := sq) (pClC_b h121 h58 hns hsq) hB⟩
    · have h58 : ¬ g (sk g (p + 1)) = 58 := fun e => by rw [if_pos e] at e_v22; omega
      rw [if_neg h58] at e_μ23
      refine aw_iconst hO dX5_readClause_24 rfl ?_
      refine aw_zret hO dX5_readClause_25 (Or.inl rfl) ?_
      exact ⟨_, rfl, RC.mk0 (q := sk g (p + 1)) (pClC_k h121 h58) (by rw [e_μ23]; exact hL1.B (by omega))⟩
