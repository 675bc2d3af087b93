
/-! ## a law, as the reference reads it -/
def WC (c : Cl) : Prop := (∀ t, c.1 = some t → WU 18 t) ∧ WS 15 c.2
theorem clB_G {g : Nat → Int} {N p0 : Nat} (hG : Gok g N) {x : PR} (hx : (∀ q, x = (q, none) → p0 ≤ q ∧ q ≤ N) ∧ (∀ q c, x = (q, some c) → p0 < q ∧ q ≤ N ∧ sk g q = q ∧ p0 + c.length ≤ q ∧ WU 18 c)) : (∀ q, clB g x = (q, none) → p0 ≤ q ∧ q ≤ N) ∧ (∀ q c, clB g x = (q, some c) → p0 < q ∧ q ≤ N ∧ sk g q = q ∧ p0 + (c.1.getD []).length + c.2.length ≤ q ∧ WC c) := by
  rcases h : x with ⟨q, _ | c⟩
  · have := hx.1 q h
    rw [clB_n rfl]
    exact ⟨fun q' e => by simp only [Prod.mk.injEq, and_true] at e; omega, fun q' c' e => by simp at e⟩
  · obtain ⟨a1, a2, a3, a4, a5⟩ := hx.2 q c h
    by_cases e1 : g q = 63
    · have hlt := hG.lt (p := q) (by omega)
      have h1 := sk_ge g (q + 1)
      have hi := pSum_G hG 6 (sk g (q + 1)) (sk_le hG (by omega))
      rcases h3 : pSum g 6 (sk g (q + 1)) with ⟨q2, _ | c2⟩
      · have := hi.1 q2 h3
        rw [clB_b rfl e1 h3]
        exact ⟨fun q' e => by simp only [Prod.mk.injEq, and_true] at e; omega, fun q' c' e => by simp at e⟩
      · obtain ⟨b1, b2, b3, b4, b5⟩ := hi.2 q2 c2 h3
        rw [clB_g rfl e1 h3]
        exact ⟨fun q' e => by simp at e, fun q' c' e => by
          simp only [Prod.mk.injEq, Option.some.injEq] at e
          obtain ⟨rfl, rfl⟩ := e
          refine ⟨by omega, b2, b3, ?_, fun t ht => ?_, b5⟩
          · simp only [Option.getD_some]; omega
          · simp only [Option.some.injEq] at ht; rw [← ht]; exact a5⟩
    · rw [clB_q rfl e1]
      exact ⟨fun q' e => by simp only [Prod.mk.injEq, and_true] at e; omega, fun q' c' e => by simp at e⟩
theorem pCl_G {g : Nat → Int} {N p : Nat} (hG : Gok g N) (hp : p ≤ N) : (∀ q, pCl g p = (q, none) → p ≤ q ∧ q ≤ N) ∧ (∀ q c, pCl g p = (q, some c) → p + 3 ≤ q ∧ q ≤ N ∧ sk g q = q ∧ p + (c.1.getD []).length + c.2.length ≤ q ∧ WC c) := by
  by_cases h1 : g p = 121
  · have hlt := hG.lt (p := p) (by omega)
    have k1 := sk_ge g (p + 1)
    have k2 := sk_le hG (p := p + 1) (by omega)
    by_cases h2 : g (sk g (p + 1)) = 58
    · have hlt2 := hG.lt (p := sk g (p + 1)) (by omega)
      have k3 := sk_ge g (sk g (p + 1) + 1)
      have k4 := sk_le hG (p := sk g (p + 1) + 1) (by omega)
      by_cases h3 : g (sk g (sk g (p + 1) + 1)) = 33 ∨ g (sk g (sk g (p + 1) + 1)) = 40
      · rw [pCl_t h1 rfl h2 rfl h3]
        have := clB_G hG (pCond_G hG 6 _ k4)
        exact ⟨fun q e => by have := this.1 q e; omega, fun q c e => by
          obtain ⟨a1, a2, a3, a4, a5⟩ := this.2 q c e
          exact ⟨by omega, a2, a3, by omega, a5⟩⟩
      · rw [pCl_s h1 rfl h2 rfl (fun e => h3 (Or.inl e)) (fun e => h3 (Or.inr e))]
        have hi := pSum_G hG 6 _ k4
        rcases h4 : pSum g 6 (sk g (sk g (p + 1) + 1)) with ⟨q, _ | c⟩
        · have := hi.1 q h4
          exact ⟨fun q' e => by simp only [Prod.mk.injEq, and_true] at e; omega, fun q' c' e => by simp at e⟩
        · obtain ⟨b1, b2, b3, b4, b5⟩ := hi.2 q c h4
          simp only
          by_cases h5 : sepR (g q) = none
          · rw [if_pos h5]
            exact ⟨fun q' e => by simp at e, fun q' c' e => by
              simp only [Prod.mk.injEq, Option.some.injEq] at e
              obtain ⟨rfl, rfl⟩ := e
              exact ⟨by omega, b2, b3, by simp only [Option.getD_none, List.length_nil]; omega, fun t ht => by simp at ht, b5⟩⟩
          · rw [if_neg h5]
            have hc := pCmp_G hG 6 b2 b5
            have key : (∀ q', condFrom g 6 (pCmp g 6 q c) = (q', none) → sk g (sk g (p + 1) + 1) ≤ q' ∧ q' ≤ N) ∧ (∀ q' c', condFrom g 6 (pCmp g 6 q c) = (q', some c') → sk g (sk g (p + 1) + 1) < q' ∧ q' ≤ N ∧ sk g q' = q' ∧ sk g (sk g (p + 1) + 1) + c'.length ≤ q' ∧ WU 18 c') := by
              rcases h6 : pCmp g 6 q c with ⟨q2, _ | c2⟩
              · have := hc.1 q2 h6
                rw [cF_n rfl]
                exact ⟨fun q' e => by simp only [Prod.mk.injEq, and_true] at e; omega, fun q' c' e => by simp at e⟩
              · obtain ⟨d1, d2, d3, d4, d5⟩ := hc.2 q2 c2 h6
                have hn := restN_G hG d2 d3 d5
                rcases h7 : rest g (pUnit g 6) sepN 241 q2 c2 with ⟨q3, _ | c3⟩
                · have := hn.1 q3 h7
                  rw [cF_b rfl h7]
                  exact ⟨fun q' e => by simp only [Prod.mk.injEq, and_true] at e; omega, fun q' c' e => by simp at e⟩
                · obtain ⟨e1, e2, e3, e4, e5⟩ := hn.2 q3 c3 h7
                  rw [cF_g rfl h7]
                  have ho := restO_G hG e2 e3 e5
                  exact ⟨fun q' e => by have := ho.1 q' e; omega, fun q' c' e => by
                    obtain ⟨f1, f2, f3, f4, f5⟩ := ho.2 q' c' e
                    exact ⟨by omega, f2, f3, by omega, f5⟩⟩
            have := clB_G hG key
            exact ⟨fun q e => by have := this.1 q e; omega, fun q c e => by
              obtain ⟨a1, a2, a3, a4, a5⟩ := this.2 q c e
              exact ⟨by omega, a2, a3, by omega, a5⟩⟩
    · rw [pCl_c h1 h2]
      exact ⟨fun q' e => by simp only [Prod.mk.injEq, and_true] at e; omega, fun q' c' e => by simp at e⟩
  · rw [pCl_y h1]
    exact ⟨fun q' e => by simp only [Prod.mk.injEq, and_true] at e; omega, fun q' c' e => by simp at e⟩
/-- behind a clause -/
def aftC (g : Nat → Int) (f q : Nat) (l : List Cl) : Nat × Option (List Cl) := if g q = 59 then pLs g f (sk g (q + 1)) l else if g q = -1 then (q, some l) else (q, none)
theorem pLs_b {g : Nat → Int} {f p q : Nat} {l : List Cl} (h : pCl g p = (q, none)) : pLs g (f + 1) p l = (q, none) := by rw [pLs]; simp only [h]
theorem pLs_g {g : Nat → Int} {f p q : Nat} {l : List Cl} {c : Cl} (h : pCl g p = (q, some c)) : pLs g (f + 1) p l = aftC g f q (l ++ [c]) := by rw [pLs]; simp only [h, aftC]
theorem pLs_G {g : Nat → Int} {N : Nat} (hG : Gok g N) : ∀ (f p : Nat) (l : List Cl), p ≤ N → N < p + f → (∀ c ∈ l, WC c) → (∀ q, pLs g f p l = (q, none) → p ≤ q ∧ q ≤ N) ∧ (∀ q l', pLs g f p l = (q, some l') → q ≤ N ∧ (∀ c ∈ l', WC c) ∧ p + (cat l').length ≤ q + (cat l).length ∧ p + 3 * l'.length ≤ q + 3 * l.length)
  | 0, p, l, hp, hf, _ => by omega
  | f + 1, p, l, hp, hf, hl => by
    have hc := pCl_G hG hp
    rcases h : pCl g p with ⟨q, _ | c⟩
    · rw [pLs_b h]
      have := hc.1 q h
      exact ⟨fun q' e => by simp only [Prod.mk.injEq, and_true] at e; omega, fun q' c' e => by simp at e⟩
    · obtain ⟨a1, a2, a3, a4, a5⟩ := hc.2 q c h
      have hl2 : ∀ c' ∈ l ++ [c], WC c' := fun c' hc' => by
        rcases List.mem_append.mp hc' with h1 | h1
        · exact hl c' h1
        · rw [List.mem_singleton.mp h1]; exact a5
      have hcl : (cat (l ++ [c])).length = (cat l).length + ((c.1.getD []).length + c.2.length) := by rw [cat_app, List.length_append, List.length_append]
      rw [pLs_g h, aftC]
      split
      · next e59 =>
        have hlt := hG.lt (p := q) (by omega)
        have k1 := sk_ge g (q + 1)
        have ih := pLs_G hG f (sk g (q + 1)) (l ++ [c]) (sk_le hG (by omega)) (by omega) hl2
        exact ⟨fun q' e => by have := ih.1 q' e; omega, fun q' l' e => by
          obtain ⟨b1, b2, b3, b4⟩ := ih.2 q' l' e
          rw [List.length_append] at b4
          simp only [List.length_cons, List.length_nil] at b4
          exact ⟨b1, b2, by omega, by omega⟩⟩
      · split
        · exact ⟨fun q' e => by simp at e, fun q' l' e => by
            simp only [Prod.mk.injEq, Option.some.injEq] at e
            obtain ⟨rfl, rfl⟩ := e
            exact ⟨a2, hl2, by omega, by rw [List.length_append]; simp only [List.length_cons, List.length_nil]; omega⟩⟩
        · exact ⟨fun q' e => by simp only [Prod.mk.injEq, and_true] at e; omega, fun q' l' e => by simp at e⟩
def faultV {α : Type} (x : Nat × Option α) : Int := match x.2 with
  | none => (x.1 : Int)
  | some _ => -1
theorem CF.fr {m m2 : Mm} {τ : Nat} {l : List Cl} (h : CF m τ l) (h5 : m2.1 5 = m.1 5) (h6 : m2.1 6 = m.1 6) (h7 : m2.1 7 = m.1 7) (h8 : m2.1 8 = m.1 8) : CF m2 τ l := by
  unfold CF
  rw [h5, h6, h7, h8]
  exact h
def sE (k i : Nat) : Prop := k = 0 ∧ (i = 3 ∨ i = 4)
theorem sE_L {τ k i : Nat} (h : sE k i) : sL τ k i := Or.inl (Or.inl ⟨h.1, by have := h.2; omega⟩)
theorem dX12_open_0 : decode cX12_open 0 = .ok (.aload_n 0, 1) := by decide +kernel
theorem dX12_open_1 : decode cX12_open 1 = .ok (.iload_n 1, 1) := by decide +kernel
theorem dX12_open_2 : decode cX12_open 2 = .ok (.putfield 110, 3) := by decide +kernel
theorem dX12_open_5 : decode cX12_open 5 = .ok (.aload_n 0, 1) := by decide +kernel
theorem dX12_open_6 : decode cX12_open 6 = .ok (.iconst 0, 1) := by decide +kernel
theorem dX12_open_7 : decode cX12_open 7 = .ok (.putfield 100, 3) := by decide +kernel
theorem dX12_open_10 : decode cX12_open 10 = .ok (.aload_n 0, 1) := by decide +kernel
theorem dX12_open_11 : decode cX12_open 11 = .ok (.iconst (-1), 1) := by decide +kernel
theorem dX12_open_12 : decode cX12_open 12 = .ok (.putfield 107, 3) := by decide +kernel
theorem dX12_open_15 : decode cX12_open 15 = .ok (.aload_n 0, 1) := by decide +kernel
theorem dX12_open_16 : decode cX12_open 16 = .ok (.iconst 0, 1) := by decide +kernel
theorem dX12_open_17 : decode cX12_open 17 = .ok (.putfield 113, 3) := by decide +kernel
theorem dX12_open_20 : decode cX12_open 20 = .ok (.aload_n 0, 1) := by decide +kernel
theorem dX12_open_21 : decode cX12_open 21 = .ok (.getfield 19, 3) := by decide +kernel
theorem dX12_open_24 : decode cX12_open 24 = .ok (.iload_n 1, 1) := by decide +kernel
theorem dX12_open_25 : decode cX12_open 25 = .ok (.iconst 0, 1) := by decide +kernel
theorem dX12_open_26 : decode cX12_open 26 = .ok (.iastore, 1) := by decide +kernel
theorem dX12_open_27 : decode cX12_open 27 = .ok (.aload_n 0, 1) := by decide +kernel
theorem dX12_open_28 : decode cX12_open 28 = .ok (.getfield 22, 3) := by decide +kernel
theorem dX12_open_31 : decode cX12_open 31 = .ok (.iload_n 1, 1) := by decide +kernel
theorem dX12_open_32 : decode cX12_open 32 = .ok (.iconst 0, 1) := by decide +kernel
theorem dX12_open_33 : decode cX12_open 33 = .ok (.iastore, 1) := by decide +kernel
theorem dX12_open_34 : decode cX12_open 34 = .ok (.return_, 1) := by decide +kernel
set_option maxHeartbeats 4000000 in
set_option maxRecDepth 100000 in
theorem ctM_open (μ : Mm) {n : Nat} (hn : n ≤ 4) : CtV PM 0 yX12_open cX12_open 2 none [vR 0, vI ((n : Nat) : Int)] μ (fun m => m = (mst (mst (mst (mst (mst (mst μ 0 14 ((n : Nat) : Int)) 0 3 0) 0 4 (-1)) 0 5 0) 4 n 0) 5 n 0)) := by
  refine ct_intro [some (vR 0), some (vI ((n : Nat) : Int))] RX12 (by decide) rfl XM rfl (Nat.le_of_ble_eq_true rfl) (fun K hO => ?_)
  refine aw_aload_n hO dX12_open_0 rfl rfl ?_
  refine aw_iload_n hO dX12_open_1 rfl rfl ?_
  refine pM_text hO dX12_open_2 rfl ?_
  refine aw_mm (fun μ1 e_μ1 => ?_)
  refine aw_aload_n hO dX12_open_5 rfl rfl ?_
  refine aw_iconst hO dX12_open_6 rfl ?_
  refine pM_at hO dX12_open_7 rfl ?_
  refine aw_mm (fun μ2 e_μ2 => ?_)
  refine aw_aload_n hO dX12_open_10 rfl rfl ?_
  refine aw_iconst hO dX12_open_11 rfl ?_
  refine pM_wrong hO dX12_open_12 rfl ?_
  refine aw_mm (fun μ3 e_μ3 => ?_)
  refine aw_aload_n hO dX12_open_15 rfl rfl ?_
  refine aw_iconst hO dX12_open_16 rfl ?_
  refine pM_deep hO dX12_open_17 rfl ?_
  refine aw_mm (fun μ4 e_μ4 => ?_)
  refine aw_aload_n hO dX12_open_20 rfl rfl ?_
  refine gM_codes hO dX12_open_21 rfl ?_
  refine aw_iload_n hO dX12_open_24 rfl rfl ?_
  refine aw_iconst hO dX12_open_25 rfl ?_
  refine aw_iastn (N := 5) (i := n) hO dX12_open_26 rfl (by decide) rfl (by decide) rfl (by omega) ?_
  refine aw_mm (fun μ5 e_μ5 => ?_)
  refine aw_aload_n hO dX12_open_27 rfl rfl ?_
  refine gM_clauses hO dX12_open_28 rfl ?_
  refine aw_iload_n hO dX12_open_31 rfl rfl ?_
  refine aw_iconst hO dX12_open_32 rfl ?_
  refine aw_iastn (N := 5) (i := n) hO dX12_open_33 rfl (by decide) rfl (by decide) rfl (by omega) ?_
  refine aw_mm (fun μ6 e_μ6 => ?_)
  refine aw_vret hO dX12_open_34 ?_
  exact ⟨rfl, by rw [e_μ6, e_μ5, e_μ4, e_μ3, e_μ2, e_μ1]⟩
def openM (μ : Mm) (n : Nat) : Mm := (mst (mst (mst (mst (mst (mst μ 0 14 ((n : Nat) : Int)) 0 3 0) 0 4 (-1)) 0 5 0) 4 n 0) 5 n 0)
theorem openM_PS {μ : Mm} {n N : Nat} {g : Nat → Int} (hG : Gok g N) (hg : gM μ = g) (hN : μ.1 0 2 = (N : Int)) (hn : n ≤ 4) : PS g N n (openM μ n) 0 0 (cat []) ∧ CF (openM μ n) n [] ∧ Fr (sL n) μ (openM μ n) := by
  have hF : Fr (sL n) μ (openM μ n) := by
    unfold openM
    exact (((((Fr.rf.st (Or.inr (Or.inr (Or.inr ⟨rfl, rfl⟩))) _).st (Or.inl sS_at) _).st (Or.inl sS_wr) _).st (Or.inl sS_dp) _).st (Or.inl sS_co) _).st (Or.inr (Or.inl ⟨rfl, rfl⟩)) _
  have e2 := hF.1 0 2 (by unfold sL sS; omega)
  refine ⟨⟨⟨hG, ?_, e2.trans hN, ?_, hn⟩, ⟨?_, ?_, ?_⟩, Nat.zero_le _, ?_, fun i hi => absurd hi (Nat.not_lt_zero _)⟩, ⟨?_, fun j c e => by simp at e⟩, hF⟩
  · rw [← hg]
    funext p
    unfold gM
    rw [e2, hF.1 1 p (by unfold sL sS; omega)]
  all_goals unfold openM
  · rw [mst_nk (by decide), mst_nk (by decide), mst_ni (by decide), mst_ni (by decide), mst_ni (by decide), mst_eq]
  · rw [mst_nk (by decide), mst_nk (by decide), mst_ni (by decide), mst_ni (by decide), mst_eq]; rfl
  · rw [mst_nk (by decide), mst_nk (by decide), mst_ni (by decide), mst_eq]
  · rw [mst_nk (by decide), mst_nk (by decide), mst_eq]; rfl
  · rw [mst_nk (by decide), mst_eq]; rfl
  · rw [mst_eq]; rfl
theorem dX12_atEnd_0 : decode cX12_atEnd 0 = .ok (.aload_n 0, 1) := by decide +kernel
theorem dX12_atEnd_1 : decode cX12_atEnd 1 = .ok (.getfield 107, 3) := by decide +kernel
theorem dX12_atEnd_4 : decode cX12_atEnd 4 = .ok (.iconst (-1), 1) := by decide +kernel
theorem dX12_atEnd_5 : decode cX12_atEnd 5 = .ok (.if_icmp .ne 15, 3) := by decide +kernel
theorem dX12_atEnd_8 : decode cX12_atEnd 8 = .ok (.aload_n 0, 1) := by decide +kernel
theorem dX12_atEnd_9 : decode cX12_atEnd 9 = .ok (.invokevirtual 119, 3) := by decide +kernel
theorem dX12_atEnd_12 : decode cX12_atEnd 12 = .ok (.iconst (-1), 1) := by decide +kernel
theorem dX12_atEnd_13 : decode cX12_atEnd 13 = .ok (.if_icmp .eq 7, 3) := by decide +kernel
theorem dX12_atEnd_16 : decode cX12_atEnd 16 = .ok (.aload_n 0, 1) := by decide +kernel
theorem dX12_atEnd_17 : decode cX12_atEnd 17 = .ok (.invokevirtual 116, 3) := by decide +kernel
theorem dX12_atEnd_20 : decode cX12_atEnd 20 = .ok (.aload_n 0, 1) := by decide +kernel
theorem dX12_atEnd_21 : decode cX12_atEnd 21 = .ok (.getfield 107, 3) := by decide +kernel
theorem dX12_atEnd_24 : decode cX12_atEnd 24 = .ok (.ireturn, 1) := by decide +kernel
set_option maxHeartbeats 4000000 in
set_option maxRecDepth 100000 in
theorem ctM_atEnd (μ : Mm) {g : Nat → Int} {N τ : Nat} {a d : Nat} {L : List Tok} (h : PS g N τ μ a d L) : CtE PM 2 yX12_atEnd cX12_atEnd 1 (some .int) [vR 0] μ (fun r m => r = (if g (sk g a) = -1 then -1 else ((sk g a : Nat) : Int)) ∧ Fr sE μ m) := by
  refine ct_intro [some (vR 0)] RX12 (by decide) rfl XM rfl (Nat.le_of_ble_eq_true rfl) (fun K hO => ?_)
  have hN := h.1.1.1
  have hBB : ∃ B : Nat, B = L.length := ⟨_, rfl⟩
  obtain ⟨B, hBe⟩ := hBB
  have hpN := sk_le h.G h.le
  refine aw_aload_n hO dX12_atEnd_0 rfl rfl ?_
  refine gM_wrong hO dX12_atEnd_1 rfl ?_
  refine aw_cg h.wr ?_
  refine aw_iconst hO dX12_atEnd_4 rfl ?_
  refine aw_icmp_ne (tgt := 20) hO dX12_atEnd_5 rfl rfl (inRlit _) (inRlit _) (fun c5 => ?_) (fun c5 => ?_)
  · exact absurd c5 (by omega)
  · refine aw_aload_n hO dX12_atEnd_8 rfl rfl ?_
    refine aw_callVE (as := []) (st := []) hO dX12_atEnd_9 rfl (lw_t6 140 rfl rfl) kX12_look (T := TX12) rfl (by decide) rfl (ctM_look μ h.1 h.at h.le) (by decide) rfl rfl rfl (Nat.le_of_ble_eq_true rfl) (fun v1 μ2 hq3 => ?_)
    obtain ⟨e_v1, e_μ2⟩ := hq3
    subst e_v1
    have hp_μ2 := h.look
    rw [← e_μ2] at hp_μ2
    have hf_μ2 : Fr (sE) μ μ2 := by rw [e_μ2]; exact Fr.rf.st ⟨rfl, by omega⟩ _
    have hr_μ2 := h.G.rng (sk g a)
    refine aw_iconst hO dX12_atEnd_12 rfl ?_
    refine aw_icmp_eq (tgt := 20) hO dX12_atEnd_13 rfl rfl ⟨by omega, by omega⟩ (inRlit _) (fun c13 => ?_) (fun c13 => ?_)
    · refine aw_aload_n hO dX12_atEnd_20 rfl rfl ?_
      refine gM_wrong hO dX12_atEnd_21 rfl ?_
      refine aw_cg hp_μ2.wr ?_
      refine aw_iret hO dX12_atEnd_24 ?_
      exact ⟨_, rfl, by rw [if_pos c13], hf_μ2⟩
    · refine aw_aload_n hO dX12_atEnd_16 rfl rfl ?_
      refine aw_callVV (as := []) (st := []) hO dX12_atEnd_17 rfl (lw_t6 168 rfl rfl) kX12_bad (T := TX12) rfl (by decide) rfl (ctM_bad μ2 hp_μ2.at hp_μ2.wr) (by decide) rfl rfl rfl (Nat.le_of_ble_eq_true rfl) (fun μ5 hq6 => ?_)
      have hb_μ5 := hp_μ2.bad (B := B) (by omega)
      rw [← hq6] at hb_μ5
      have hf_μ5 : Fr (sE) μ μ5 := by rw [hq6]; exact hf_μ2.st ⟨rfl, by omega⟩ _
      refine aw_aload_n hO dX12_atEnd_20 rfl rfl ?_
      refine gM_wrong hO dX12_atEnd_21 rfl ?_
      refine aw_cg hb_μ5.2.1.1 ?_
      refine aw_iret hO dX12_atEnd_24 ?_
      exact ⟨_, rfl, by rw [if_neg c13], hf_μ5⟩
set_option maxHeartbeats 4000000 in
set_option maxRecDepth 100000 in
theorem ctM_atEndB (μ : Mm) {g : Nat → Int} {N τ : Nat} {q : Nat} (h : BdL g N τ μ q) : CtE PM 2 yX12_atEnd cX12_atEnd 1 (some .int) [vR 0] μ (fun r m => r = (q : Int) ∧ m = μ) := by
  refine ct_intro [some (vR 0)] RX12 (by decide) rfl XM rfl (Nat.le_of_ble_eq_true rfl) (fun K hO => ?_)
  have hN := h.1.1.1
  have hqN := h.2.2
  refine aw_aload_n hO dX12_atEnd_0 rfl rfl ?_
  refine gM_wrong hO dX12_atEnd_1 rfl ?_
  refine aw_cg h.2.1 ?_
  refine aw_iconst hO dX12_atEnd_4 rfl ?_
  refine aw_icmp_ne (tgt := 20) hO dX12_atEnd_5 rfl rfl (inRn (by omega)) (inRlit _) (fun c5 => ?_) (fun c5 => ?_)
  · refine aw_aload_n hO dX12_atEnd_20 rfl rfl ?_
    refine gM_wrong hO dX12_atEnd_21 rfl ?_
    refine aw_cg h.2.1 ?_
    refine aw_iret hO dX12_atEnd_24 ?_
    exact ⟨_, rfl, rfl, rfl⟩
  · exact absurd c5 (by omega)
theorem dX12_readLaw_0 : decode cX12_readLaw 0 = .ok (.aload_n 0, 1) := by decide +kernel
theorem dX12_readLaw_1 : decode cX12_readLaw 1 = .ok (.iload_n 1, 1) := by decide +kernel
theorem dX12_readLaw_2 : decode cX12_readLaw 2 = .ok (.invokevirtual 171, 3) := by decide +kernel
theorem dX12_readLaw_5 : decode cX12_readLaw 5 = .ok (.aload_n 0, 1) := by decide +kernel
theorem dX12_readLaw_6 : decode cX12_readLaw 6 = .ok (.invokevirtual 174, 3) := by decide +kernel
theorem dX12_readLaw_9 : decode cX12_readLaw 9 = .ok (.aload_n 0, 1) := by decide +kernel
theorem dX12_readLaw_10 : decode cX12_readLaw 10 = .ok (.getfield 107, 3) := by decide +kernel
theorem dX12_readLaw_13 : decode cX12_readLaw 13 = .ok (.iconst (-1), 1) := by decide +kernel
theorem dX12_readLaw_14 : decode cX12_readLaw 14 = .ok (.if_icmp .ne 29, 3) := by decide +kernel
theorem dX12_readLaw_17 : decode cX12_readLaw 17 = .ok (.aload_n 0, 1) := by decide +kernel
theorem dX12_readLaw_18 : decode cX12_readLaw 18 = .ok (.invokevirtual 119, 3) := by decide +kernel
theorem dX12_readLaw_21 : decode cX12_readLaw 21 = .ok (.bipush 59, 2) := by decide +kernel
theorem dX12_readLaw_23 : decode cX12_readLaw 23 = .ok (.if_icmp .ne 20, 3) := by decide +kernel
theorem dX12_readLaw_26 : decode cX12_readLaw 26 = .ok (.aload_n 0, 1) := by decide +kernel
theorem dX12_readLaw_27 : decode cX12_readLaw 27 = .ok (.dup, 1) := by decide +kernel
theorem dX12_readLaw_28 : decode cX12_readLaw 28 = .ok (.getfield 100, 3) := by decide +kernel
theorem dX12_readLaw_31 : decode cX12_readLaw 31 = .ok (.iconst 1, 1) := by decide +kernel
theorem dX12_readLaw_32 : decode cX12_readLaw 32 = .ok (.iadd, 1) := by decide +kernel
theorem dX12_readLaw_33 : decode cX12_readLaw 33 = .ok (.putfield 100, 3) := by decide +kernel
theorem dX12_readLaw_36 : decode cX12_readLaw 36 = .ok (.aload_n 0, 1) := by decide +kernel
theorem dX12_readLaw_37 : decode cX12_readLaw 37 = .ok (.invokevirtual 174, 3) := by decide +kernel
theorem dX12_readLaw_40 : decode cX12_readLaw 40 = .ok (.goto (-31), 3) := by decide +kernel
theorem dX12_readLaw_43 : decode cX12_readLaw 43 = .ok (.aload_n 0, 1) := by decide +kernel
theorem dX12_readLaw_44 : decode cX12_readLaw 44 = .ok (.invokevirtual 177, 3) := by decide +kernel
theorem dX12_readLaw_47 : decode cX12_readLaw 47 = .ok (.ireturn, 1) := by decide +kernel
set_option maxHeartbeats 4000000 in
set_option maxRecDepth 100000 in
theorem ctM_readLaw (μ : Mm) {g : Nat → Int} {N n : Nat} (hG : Gok g N) (hg : gM μ = g) (hNs : μ.1 0 2 = (N : Int)) (hn : n ≤ 4) : CtE PM 36 yX12_readLaw cX12_readLaw 2 (some .int) [vR 0, vI ((n : Nat) : Int)] μ (fun r m => Fr (sL n) μ m ∧ m.1 0 14 = (n : Int) ∧ r = faultV (pLaw g) ∧ ∀ q l, pLaw g = (q, some l) → CF m n l ∧ Row m n (cat l)) := by
  refine ct_intro [some (vR 0), some (vI ((n : Nat) : Int))] RX12 (by decide) rfl XM rfl (Nat.le_of_ble_eq_true rfl) (fun K hO => ?_)
  have hN := hG.1
  have lp : ∀ (f a : Nat) (l : List Cl) (m : Mm), N < sk g a + f → PS g N n m a 0 (cat l) → CF m n l → (cat l).length ≤ sk g a → 3 * l.length ≤ sk g a → Fr (sL n) μ m → aftC g f (sk g a) l = pLaw g → AW K 9 [some (vR 0), some (vI ((n : Nat) : Int))] [] m := by
    intro f
    induction f with
    | zero =>
      intro a l m hf h
      have := sk_le hG h.le
      omega
    | succ f ih =>
      intro a l m hf h hC hL hL2 hF e0
      have hpN := sk_le hG h.le
      refine aw_aload_n hO dX12_readLaw_9 rfl rfl ?_
      refine gM_wrong hO dX12_readLaw_10 rfl ?_
      refine aw_cg h.wr ?_
      refine aw_iconst hO dX12_readLaw_13 rfl ?_
      refine aw_icmp_ne (tgt := 43) hO dX12_readLaw_14 rfl rfl (inRlit _) (inRlit _) (fun c14 => ?_) (fun c14 => ?_)
      · exact absurd c14 (by omega)
      · refine aw_aload_n hO dX12_readLaw_17 rfl rfl ?_
        refine aw_callVE (as := []) (st := []) hO dX12_readLaw_18 rfl (lw_t6 140 rfl rfl) kX12_look (T := TX12) rfl (by decide) rfl (ctM_look m h.1 h.at h.le) (by decide) rfl rfl rfl (Nat.le_of_ble_eq_true rfl) (fun v1 μ2 hq3 => ?_)
        obtain ⟨e_v1, e_μ2⟩ := hq3
        subst e_v1
        have hp_μ2 := h.look
        rw [← e_μ2] at hp_μ2
        have hf_μ2 : Fr (sL n) μ μ2 := by rw [e_μ2]; exact hF.st (Or.inl sS_at) _
        have hr_μ2 := h.G.rng (sk g a)
        have hC_μ2 : CF μ2 n l := hC.fr (by rw [e_μ2]; exact funext fun _ => mst_nk (by decide)) (by rw [e_μ2]; exact funext fun _ => mst_nk (by decide)) (by rw [e_μ2]; exact funext fun _ => mst_nk (by decide)) (by rw [e_μ2]; exact funext fun _ => mst_nk (by decide))
        refine aw_bipush hO dX12_readLaw_21 rfl (by decide) (by decide) ?_
        refine aw_icmp_ne (tgt := 43) hO dX12_readLaw_23 rfl rfl ⟨by omega, by omega⟩ (inRlit _) (fun c23 => ?_) (fun c23 => ?_)
        · refine aw_aload_n hO dX12_readLaw_43 rfl rfl ?_
          refine aw_callVE (as := []) (st := []) hO dX12_readLaw_44 rfl (lw_t7 1 rfl rfl) kX12_atEnd (T := TX12) rfl (by decide) rfl (ctM_atEnd μ2 hp_μ2) (by decide) rfl rfl rfl (Nat.le_of_ble_eq_true rfl) (fun v4 μ5 hq6 => ?_)
          obtain ⟨e_v4, hfe_μ5⟩ := hq6
          refine aw_iret hO dX12_readLaw_47 ?_
          rw [show sk g (sk g a) = sk g a from sk_sk hG a] at e_v4
          have hfx : Fr (sL n) μ μ5 := hf_μ2.tr (hfe_μ5.mono fun _ _ => sE_L)
          by_cases e9 : g (sk g a) = -1
          · have e1 : pLaw g = (sk g a, some l) := by rw [← e0, aftC, if_neg c23, if_pos e9]
            exact ⟨_, rfl, hfx, (hfe_μ5.1 0 14 (by unfold sE; omega)).trans hp_μ2.1.2.2.2.1, by rw [e_v4, e1, if_pos e9]; rfl, fun q l' e => by
              rw [e1] at e
              simp only [Prod.mk.injEq, Option.some.injEq] at e
              rw [← e.2]
              exact ⟨hC_μ2.fr (funext fun i => hfe_μ5.1 5 i (by unfold sE; omega)) (funext fun i => hfe_μ5.1 6 i (by unfold sE; omega)) (funext fun i => hfe_μ5.1 7 i (by unfold sE; omega)) (funext fun i => hfe_μ5.1 8 i (by unfold sE; omega)), hp_μ2.2.2.2.off (hfe_μ5.1 4 n (by unfold sE; omega)) (funext fun i => hfe_μ5.1 2 i (by unfold sE; omega)) (funext fun i => hfe_μ5.1 3 i (by unfold sE; omega))⟩⟩
          · have e1 : pLaw g = (sk g a, none) := by rw [← e0, aftC, if_neg c23, if_neg e9]
            exact ⟨_, rfl, hfx, (hfe_μ5.1 0 14 (by unfold sE; omega)).trans hp_μ2.1.2.2.2.1, by rw [e_v4, e1, if_neg e9]; rfl, fun q l' e => by rw [e1] at e; simp at e⟩
        · have hlt := hG.lt (p := sk g a) (by omega)
          refine aw_aload_n hO dX12_readLaw_26 rfl rfl ?_
          refine aw_dup hO dX12_readLaw_27 rfl rfl ?_
          refine gM_at hO dX12_readLaw_28 rfl ?_
          refine aw_cg hp_μ2.at ?_
          refine aw_iconst hO dX12_readLaw_31 rfl ?_
          refine aw_iadd hO dX12_readLaw_32 rfl ?_
          refine pM_at hO dX12_readLaw_33 rfl ?_
          refine aw_mm (fun μ7 e_μ7 => ?_)
          have hf_μ7 : Fr (sL n) μ μ7 := by rw [e_μ7]; exact hf_μ2.st (Or.inl sS_at) _
          have hp_μ7 := hp_μ2.to (b := ((sk g a) + 1)) (by omega)
          rw [show ((((sk g a) + 1) : Nat) : Int) = (((sk g a) : Nat) : Int) + 1 from rfl, ← e_μ7] at hp_μ7
          refine aw_aload_n hO dX12_readLaw_36 rfl rfl ?_
          have hC2 : CF μ7 n l := hC_μ2.fr (by rw [e_μ7]; exact funext fun _ => mst_nk (by decide)) (by rw [e_μ7]; exact funext fun _ => mst_nk (by decide)) (by rw [e_μ7]; exact funext fun _ => mst_nk (by decide)) (by rw [e_μ7]; exact funext fun _ => mst_nk (by decide))
          have hge := sk_ge g ((sk g a) + 1)
          refine aw_callVV (as := []) (st := []) hO dX12_readLaw_37 rfl (lw_t6 183 rfl rfl) kX12_clause (T := TX12) rfl (by decide) rfl (ctM_clause μ7 (l := l) hp_μ7 hC2 (by omega) (by omega)) (by decide) rfl rfl rfl (Nat.le_of_ble_eq_true rfl) (fun μ9 hq10 => ?_)
          obtain ⟨hf0_μ9, ho_μ9⟩ := hq10
          have hf_μ9 : Fr (sL n) μ μ9 := hf_μ7.tr (hf0_μ9.mono fun _ _ => sC_L (by omega))
          rcases hx : pCl g (sk g ((sk g a) + 1)) with ⟨q2, _ | c2⟩
          all_goals rw [hx] at ho_μ9
          · have hq2N : q2 ≤ N := ho_μ9.2.2
            refine aw_goto (tgt := 9) hO dX12_readLaw_40 rfl ?_
            refine aw_aload_n hO dX12_readLaw_9 rfl rfl ?_
            refine gM_wrong hO dX12_readLaw_10 rfl ?_
            refine aw_cg ho_μ9.2.1 ?_
            refine aw_iconst hO dX12_readLaw_13 rfl ?_
            refine aw_icmp_ne (tgt := 43) hO dX12_readLaw_14 rfl rfl (inRn (by omega)) (inRlit _) (fun c14 => ?_) (fun c14 => ?_)
            · refine aw_aload_n hO dX12_readLaw_43 rfl rfl ?_
              refine aw_callVE (as := []) (st := []) hO dX12_readLaw_44 rfl (lw_t7 1 rfl rfl) kX12_atEnd (T := TX12) rfl (by decide) rfl (ctM_atEndB μ9 ho_μ9) (by decide) rfl rfl rfl (Nat.le_of_ble_eq_true rfl) (fun v11 μ12 hq13 => ?_)
              obtain ⟨e_v11, e_μ12⟩ := hq13
              refine aw_iret hO dX12_readLaw_47 ?_
              have e1 : pLaw g = (q2, none) := by rw [← e0, aftC, if_pos c23, pLs_b hx]
              exact ⟨_, rfl, by rw [e_μ12]; exact hf_μ9, by rw [e_μ12]; exact ho_μ9.1.2.2.2.1, by rw [e_v11, e1]; rfl, fun q l' e => by rw [e1] at e; simp at e⟩
            · exact absurd c14 (by omega)
          · obtain ⟨a2, hs2, hp2, hC3⟩ := ho_μ9
            obtain ⟨z1, z2, z3, z4, z5⟩ := (pCl_G hG (sk_le hG (by omega))).2 q2 c2 hx
            have hcl : (cat (l ++ [c2])).length = (cat l).length + ((c2.1.getD []).length + c2.2.length) := by rw [cat_app, List.length_append, List.length_append]
            refine aw_goto (tgt := 9) hO dX12_readLaw_40 rfl ?_
            exact ih a2 (l ++ [c2]) μ9 (by rw [hs2]; omega) hp2 hC3 (by rw [hs2, hcl]; omega) (by rw [hs2, List.length_append]; simp only [List.length_cons, List.length_nil]; omega) hf_μ9 (by rw [hs2, ← e0, show aftC g (f + 1) (sk g a) l = pLs g (f + 1) (sk g (sk g a + 1)) l from if_pos c23, pLs_g hx])
  refine aw_aload_n hO dX12_readLaw_0 rfl rfl ?_
  refine aw_iload_n hO dX12_readLaw_1 rfl rfl ?_
  refine aw_callVV (as := [vI ((n : Nat) : Int)]) (st := []) hO dX12_readLaw_2 rfl (lw_t6 179 rfl rfl) kX12_open (T := TX12) rfl (by decide) rfl (ctM_open μ hn) (by decide) rfl rfl rfl (Nat.le_of_ble_eq_true rfl) (fun μ15 hq16 => ?_)
  have hop := openM_PS (n := n) hG hg hNs hn
  rw [show openM μ n = μ15 from hq16.symm] at hop
  refine aw_aload_n hO dX12_readLaw_5 rfl rfl ?_
  have hC2 := hop.2.1
  have hge := sk_ge g 0
  refine aw_callVV (as := []) (st := []) hO dX12_readLaw_6 rfl (lw_t6 183 rfl rfl) kX12_clause (T := TX12) rfl (by decide) rfl (ctM_clause μ15 (l := ([] : List Cl)) hop.1 hC2 (by exact Nat.zero_le _) (by exact Nat.zero_le _)) (by decide) rfl rfl rfl (Nat.le_of_ble_eq_true rfl) (fun μ18 hq19 => ?_)
  obtain ⟨hf0_μ18, ho_μ18⟩ := hq19
  have hf_μ18 : Fr (sL n) μ μ18 := hop.2.2.tr (hf0_μ18.mono fun _ _ => sC_L (by decide))
  rcases hx : pCl g (sk g 0) with ⟨q2, _ | c2⟩
  all_goals rw [hx] at ho_μ18
  · have hq2N : q2 ≤ N := ho_μ18.2.2
    refine aw_aload_n hO dX12_readLaw_9 rfl rfl ?_
    refine gM_wrong hO dX12_readLaw_10 rfl ?_
    refine aw_cg ho_μ18.2.1 ?_
    refine aw_iconst hO dX12_readLaw_13 rfl ?_
    refine aw_icmp_ne (tgt := 43) hO dX12_readLaw_14 rfl rfl (inRn (by omega)) (inRlit _) (fun c14 => ?_) (fun c14 => ?_)
    · refine aw_aload_n hO dX12_readLaw_43 rfl rfl ?_
      refine aw_callVE (as := []) (st := []) hO dX12_readLaw_44 rfl (lw_t7 1 rfl rfl) kX12_atEnd (T := TX12) rfl (by decide) rfl (ctM_atEndB μ18 ho_μ18) (by decide) rfl rfl rfl (Nat.le_of_ble_eq_true rfl) (fun v20 μ21 hq22 => ?_)
      obtain ⟨e_v20, e_μ21⟩ := hq22
      refine aw_iret hO dX12_readLaw_47 ?_
      have e1 : pLaw g = (q2, none) := by unfold pLaw; rw [pLs_b hx]
      exact ⟨_, rfl, by rw [e_μ21]; exact hf_μ18, by rw [e_μ21]; exact ho_μ18.1.2.2.2.1, by rw [e_v20, e1]; rfl, fun q l' e => by rw [e1] at e; simp at e⟩
    · exact absurd c14 (by omega)
  · obtain ⟨a2, hs2, hp2, hC3⟩ := ho_μ18
    obtain ⟨z1, z2, z3, z4, z5⟩ := (pCl_G hG (sk_le hG (by omega))).2 q2 c2 hx
    have hcl : (cat (([] : List Cl) ++ [c2])).length = (cat ([] : List Cl)).length + ((c2.1.getD []).length + c2.2.length) := by rw [cat_app, List.length_append, List.length_append]
    exact lp 240 a2 ([] ++ [c2]) μ18 (by rw [hs2]; omega) hp2 hC3 (by rw [hs2, hcl]; show 0 + _ ≤ _; omega) (by rw [hs2]; show 3 * 1 ≤ _; omega) hf_μ18 (by unfold pLaw; rw [pLs_g hx, hs2])
