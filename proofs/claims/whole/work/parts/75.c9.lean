/-! ## questions (2): trying out -/
def qS (k i : Nat) : Prop := jS k i ∨ k = 79 ∨ k = 80 ∨ (k = 77 ∧ (i = 4 ∨ i = 5))
theorem worthM_N {ν : Mm} {F : Nat → Int} {n : Nat} {lt : Nat → Int} : ∀ r j, worthM (wN ν F) n lt r j = worthM ν n lt r j
  | 0, _ => rfl
  | r + 1, j => by rw [worthM, worthM, worthM_N r (j + 1)]; rfl
theorem appealM_row {ν : Mm} {F F' : Nat → Int} {p : Nat} (h0 : F' p = F p) (h1 : F' (6 + 2 * p) = F (6 + 2 * p)) (h2 : F' (6 + 2 * p + 1) = F (6 + 2 * p + 1)) (h3 : F' (18 + p) = F (18 + p)) (h4 : F' 36 = F 36) : appealM (wN ν F') p = appealM (wN ν F) p := by
  have e0 : seemsM (wN ν F') p 0 = seemsM (wN ν F) p 0 := by
    unfold seemsM
    rw [wN_17, wN_17, show 6 + 2 * p + 0 = 6 + 2 * p from rfl, h1]
    rfl
  have e1 : seemsM (wN ν F') p 1 = seemsM (wN ν F) p 1 := by
    unfold seemsM
    rw [wN_17, wN_17, h2]
    rfl
  have e2 : ltM (wN ν F') p = ltM (wN ν F) p := by
    funext i
    unfold ltM
    split
    · exact e0
    · exact e1
    · rfl
    · rw [wN_17, wN_17, h0]
    · rw [wN_17, wN_17, h3]
    · rw [wN_17, wN_17, h4]
  unfold appealM rawM
  rw [e0, e1, e2, worthM_N, worthM_N]
  rfl
theorem canT_row {ν : Mm} {F F' : Nat → Int} (h0 : ∀ p, p < 6 → F' p = F p) (h1 : F' 31 = F 31) : canT (wN ν F') = canT (wN ν F) := by
  unfold canT inT
  rw [wN_17, wN_17, h1, metO_congr 6 h0]
  rfl
theorem inT_row {ν : Mm} {F F' : Nat → Int} (h1 : F' 31 = F 31) : inT (wN ν F') = inT (wN ν F) := by
  unfold inT
  rw [wN_17, wN_17, h1]
  rfl
theorem fu_fu {f : Nat → Int} {i : Nat} {v w : Int} : fu (fu f i v) i w = fu f i w := by
  funext j
  unfold fu
  split <;> rfl
theorem JR.cp {μ ν : Mm} (h : JR μ 27 ν) : JR (mcp μ 79 28 0 0 98) 78 ν := by
  have n : ∀ k, k ≠ 79 → (mcp μ 79 28 0 0 98).1 k = μ.1 k := fun k hk => funext fun i => mcp_nk hk
  refine ⟨Or.inr (Or.inr rfl), h.G, h.T.fr (n _ (by decide)) (n _ (by decide)), ?_, h.S.fs (fun i hi _ => ?_)⟩
  · exact h.H.fr (S := fun k _ => k = 79) ⟨fun k i hk => by rw [n k hk], rfl⟩ (fun j i hj => ⟨by omega, by omega⟩)
  · have := mcp_in (μ := μ) (dst := 79) (src := 28) (dO := 0) (sO := 0) (n := 98) (i := i) (by omega) (by omega)
    rw [show 0 + (i - 0) = i by omega] at this
    exact this
theorem Fr.cp {S : Nat → Nat → Prop} {a b : Mm} (h : Fr S a b) {k k0 : Nat} (hk : ∀ i, S k i) (x y n : Nat) : Fr S a (mcp b k k0 x y n) := ⟨fun k' i' h' => by
  rw [mcp_nk (fun e => h' (by rw [e]; exact hk i'))]
  exact h.1 k' i' h', h.2⟩
theorem ST.qs {μ m : Mm} {G : Nat → Int} (h : ST μ 78 G m) : Fr qS μ m := h.1.mono (fun _ _ e => Or.inr (Or.inl e))
theorem jS_q {k i : Nat} (h : jS k i) : qS k i := Or.inl h
theorem JR.fq {μ m ν : Mm} (h : JR μ 27 ν) (hF : Fr qS μ m) : JR m 27 ν := h.fr hF (fun k i e => by
  rcases e with e | e | e | e
  · exact Or.inl e
  all_goals omega) (fun i e => by unfold qS jS at e; omega)
/-- of those found the one with fewest together, of several the one with the lowest first -/
def FgB (P S : Nat → Nat → Bool) (r : Int) : Prop := (r = -1 ∧ ∀ a b, S a b = true → P a b = false) ∨ ∃ a b : Nat, a ≤ 3 ∧ b ≤ 3 ∧ S a b = true ∧ P a b = true ∧ r = 10 * (a : Int) + b ∧ ∀ a' b', S a' b' = true → P a' b' = true → a + b < a' + b' ∨ (a + b = a' + b' ∧ a ≤ a')
theorem FgB.step {P S S' : Nat → Nat → Bool} {r : Int} {a0 b0 : Nat} (h : FgB P S r) (ha : a0 ≤ 3) (hb : b0 ≤ 3) (hS : ∀ a b, S a b = true → a ≤ a0) (hS' : ∀ a b, S' a b = true ↔ (S a b = true ∨ (a = a0 ∧ b = b0))) : FgB P S' (if (r = -1 ∨ (a0 : Int) + b0 < r / 10 + r % 10) ∧ P a0 b0 = true then 10 * (a0 : Int) + b0 else r) := by
  have h00 := (hS' a0 b0).mpr (Or.inr ⟨rfl, rfl⟩)
  rcases h with ⟨hr, hn⟩ | ⟨a, b, h1, h2, h3, h4, h5, h6⟩
  · by_cases hp : P a0 b0 = true
    · rw [if_pos ⟨Or.inl hr, hp⟩]
      refine Or.inr ⟨a0, b0, ha, hb, h00, hp, rfl, fun a' b' hs hq => ?_⟩
      rcases (hS' a' b').mp hs with q | ⟨q1, q2⟩
      · rw [hn a' b' q] at hq; cases hq
      · omega
    · rw [if_neg (fun q => hp q.2)]
      refine Or.inl ⟨hr, fun a' b' hs => ?_⟩
      rcases (hS' a' b').mp hs with q | ⟨q1, q2⟩
      · exact hn a' b' q
      · rw [q1, q2]; simpa using hp
  · have hd : r / 10 + r % 10 = (a : Int) + b := by rw [h5]; omega
    by_cases hp : P a0 b0 = true ∧ a0 + b0 < a + b
    · rw [if_pos ⟨Or.inr (by omega), hp.1⟩]
      refine Or.inr ⟨a0, b0, ha, hb, h00, hp.1, rfl, fun a' b' hs hq => ?_⟩
      rcases (hS' a' b').mp hs with q | ⟨q1, q2⟩
      · have := h6 a' b' q hq; omega
      · omega
    · rw [if_neg (fun q => hp ⟨q.2, by omega⟩)]
      refine Or.inr ⟨a, b, h1, h2, (hS' a b).mpr (Or.inl h3), h4, h5, fun a' b' hs hq => ?_⟩
      rcases (hS' a' b').mp hs with q | ⟨q1, q2⟩
      · exact h6 a' b' q hq
      · have := hS a b h3
        rw [q1, q2] at hq
        have hx : ¬ a0 + b0 < a + b := fun z => hp ⟨hq, z⟩
        omega
theorem fgI_B {P : Nat → Nat → Bool} {B a : Nat} {r : Int} (ha : a ≤ 3) (h : FgB P (fun a' b' => decide (a' < a ∧ b' < B)) r) : ∀ b, b ≤ B → b ≤ 4 → FgB P (fun a' b' => decide ((a' < a ∧ b' < B) ∨ (a' = a ∧ b' < b))) (fgI P a r b)
  | 0, _, _ => by
    rw [fgI]
    have e : (fun a' b' => decide ((a' < a ∧ b' < B) ∨ (a' = a ∧ b' < 0))) = (fun a' b' => decide (a' < a ∧ b' < B)) := by funext a' b'; simp
    rw [e]; exact h
  | b + 1, hb, hb4 => by
    rw [fgI]
    exact (fgI_B ha h b (by omega) (by omega)).step ha (by omega) (fun a' b' q => by simp only [decide_eq_true_eq] at q; omega) (fun a' b' => by simp only [decide_eq_true_eq]; omega)
theorem fgO_B {P : Nat → Nat → Bool} {B : Nat} (hB : B ≤ 4) : ∀ a, a ≤ 4 → FgB P (fun a' b' => decide (a' < a ∧ b' < B)) (fgO P B a)
  | 0, _ => Or.inl ⟨rfl, fun a b q => by simp at q⟩
  | a + 1, ha => by
    rw [fgO]
    have := fgI_B (P := P) (by omega) (fgO_B hB a (by omega)) B (Nat.le_refl _) hB
    have e : (fun a' b' => decide ((a' < a ∧ b' < B) ∨ (a' = a ∧ b' < B))) = (fun a' b' => decide (a' < a + 1 ∧ b' < B)) := by
      funext a' b'
      rw [decide_eq_decide]
      omega
    rwa [e] at this
theorem fgO_found {P : Nat → Nat → Bool} {A B a b : Nat} (hA : A ≤ 4) (hB : B ≤ 4) (ha : a < A) (hb : b < B) (hp : P a b = true) (hn : ∀ a' b', a' < A → b' < B → (a' + b' < a + b ∨ (a' + b' = a + b ∧ a' < a)) → P a' b' = false) : fgO P B A = 10 * (a : Int) + b := by
  rcases fgO_B (P := P) hB A hA with ⟨h1, h2⟩ | ⟨a1, b1, h1, h2, h3, h4, h5, h6⟩
  · have := h2 a b (by simp [ha, hb])
    rw [hp] at this; cases this
  · have q := h6 a b (by simp [ha, hb]) hp
    simp only [decide_eq_true_eq] at h3
    by_cases e : a1 + b1 < a + b ∨ (a1 + b1 = a + b ∧ a1 < a)
    · have := hn a1 b1 h3.1 h3.2 e
      rw [h4] at this; cases this
    · rw [h5]; omega
theorem fgO_none {P : Nat → Nat → Bool} {A B : Nat} (hA : A ≤ 4) (hB : B ≤ 4) (hn : ∀ a' b', a' < A → b' < B → P a' b' = false) : fgO P B A = -1 := by
  rcases fgO_B (P := P) hB A hA with ⟨h1, h2⟩ | ⟨a1, b1, h1, h2, h3, h4, h5, h6⟩
  · exact h1
  · simp only [decide_eq_true_eq] at h3
    have := hn a1 b1 h3.1 h3.2
    rw [h4] at this; cases this
/-- one met more, feigning so often -/
def tryF (f : Nat → Int) (p : Nat) (x y : Int) : Nat → Int := fu (fu (fu f p (min 9 (f p + 1))) (6 + 2 * p) x) (6 + 2 * p + 1) y
theorem tryF_x {f : Nat → Int} {p : Nat} {x y x' : Int} : fu (tryF f p x y) (6 + 2 * p) x' = tryF f p x' y := by
  unfold tryF
  rw [fu_comm (by omega), fu_fu]
theorem tryF_y {f : Nat → Int} {p : Nat} {x y y' : Int} : fu (tryF f p x y) (6 + 2 * p + 1) y' = tryF f p x y' := by
  unfold tryF
  rw [fu_fu]
theorem tryF_ne {f : Nat → Int} {p i : Nat} {x y : Int} (h1 : i ≠ 6 + 2 * p) (h2 : i ≠ 6 + 2 * p + 1) : tryF f p x y i = fu f p (min 9 (f p + 1)) i := by
  unfold tryF
  rw [fu_ne h2, fu_ne h1]
theorem tryF_0 {f : Nat → Int} {p : Nat} (hp : p < 6) : tryF f p (f (6 + 2 * p)) (f (6 + 2 * p + 1)) = fu f p (min 9 (f p + 1)) := by
  unfold tryF
  rw [fu_self (i := 6 + 2 * p) (by rw [fu_ne (by omega)]), fu_self (by rw [fu_ne (by omega)])]
theorem tryF_ok {f : Nat → Int} (h : NowOK f) {p : Nat} (hp : p < 6) {x y : Int} (hx : 0 ≤ x ∧ x ≤ 3) (hy : 0 ≤ y ∧ y ≤ 3) : NowOK (tryF f p x y) := by
  have := h.met hp
  exact ((h.upd (i := p) (fun _ => by omega) (by omega) (by omega) (by omega) (by omega) (by omega) (by omega)).upd (by omega) (fun _ _ => hx) (by omega) (by omega) (by omega) (by omega) (by omega)).upd (by omega) (fun _ _ => hy) (by omega) (by omega) (by omega) (by omega) (by omega)
/-- while one tries to feign -/
def TF (μ ν : Mm) (p : Nat) (c : Int) (x y : Int) (m : Mm) : Prop := Fr qS μ m ∧ JR m 78 (wN ν (tryF (ν.1 17) p x y)) ∧ ∀ o, o < (ν.1 0 25).toNat → o ≠ p → hasB c o = true → m.1 75 o = appealM (wN ν (tryF (ν.1 17) p x y)) o
theorem TF.mv {μ ν m m' : Mm} {p : Nat} {c x y x' y' : Int} (h : TF μ ν p c x y m) (hp : p < 6) (hm : ST m 78 (tryF (ν.1 17) p x' y') m') (hx : 0 ≤ x' ∧ x' ≤ 3) (hy : 0 ≤ y' ∧ y' ≤ 3) (hN : NowOK (ν.1 17)) : TF μ ν p c x' y' m' := by
  refine ⟨h.1.tr hm.qs, ?_, fun o ho hop hc => ?_⟩
  · have := h.2.1.to hm (tryF_ok hN hp hx hy)
    rwa [wN_wN] at this
  · rw [hm.1.1 75 o (by omega), h.2.2 o ho hop hc]
    have hn : ν.1 0 25 ≤ 6 := h.2.1.B.np.2
    exact appealM_row (by rw [tryF_ne (by omega) (by omega), tryF_ne (by omega) (by omega)]) (by rw [tryF_ne (by omega) (by omega), tryF_ne (by omega) (by omega)]) (by rw [tryF_ne (by omega) (by omega), tryF_ne (by omega) (by omega)]) (by rw [tryF_ne (by omega) (by omega), tryF_ne (by omega) (by omega)]) (by rw [tryF_ne (by omega) (by omega), tryF_ne (by omega) (by omega)])
theorem dX6_leastFeigning_0 : decode cX6_leastFeigning 0 = .ok (.aload_n 0, 1) := by decide +kernel
theorem dX6_leastFeigning_1 : decode cX6_leastFeigning 1 = .ok (.getfield 12, 3) := by decide +kernel
theorem dX6_leastFeigning_4 : decode cX6_leastFeigning 4 = .ok (.aload_n 1, 1) := by decide +kernel
theorem dX6_leastFeigning_5 : decode cX6_leastFeigning 5 = .ok (.invokevirtual 58, 3) := by decide +kernel
theorem dX6_leastFeigning_8 : decode cX6_leastFeigning 8 = .ok (.aload_n 0, 1) := by decide +kernel
theorem dX6_leastFeigning_9 : decode cX6_leastFeigning 9 = .ok (.getfield 12, 3) := by decide +kernel
theorem dX6_leastFeigning_12 : decode cX6_leastFeigning 12 = .ok (.iload_n 2, 1) := by decide +kernel
theorem dX6_leastFeigning_13 : decode cX6_leastFeigning 13 = .ok (.invokevirtual 62, 3) := by decide +kernel
theorem dX6_leastFeigning_16 : decode cX6_leastFeigning 16 = .ok (.aload_n 0, 1) := by decide +kernel
theorem dX6_leastFeigning_17 : decode cX6_leastFeigning 17 = .ok (.getfield 33, 3) := by decide +kernel
theorem dX6_leastFeigning_20 : decode cX6_leastFeigning 20 = .ok (.aload_n 0, 1) := by decide +kernel
theorem dX6_leastFeigning_21 : decode cX6_leastFeigning 21 = .ok (.getfield 12, 3) := by decide +kernel
theorem dX6_leastFeigning_24 : decode cX6_leastFeigning 24 = .ok (.invokevirtual 37, 3) := by decide +kernel
theorem dX6_leastFeigning_27 : decode cX6_leastFeigning 27 = .ok (.istore_n 3, 1) := by decide +kernel
theorem dX6_leastFeigning_28 : decode cX6_leastFeigning 28 = .ok (.aload_n 0, 1) := by decide +kernel
theorem dX6_leastFeigning_29 : decode cX6_leastFeigning 29 = .ok (.getfield 33, 3) := by decide +kernel
theorem dX6_leastFeigning_32 : decode cX6_leastFeigning 32 = .ok (.aload_n 0, 1) := by decide +kernel
theorem dX6_leastFeigning_33 : decode cX6_leastFeigning 33 = .ok (.getfield 12, 3) := by decide +kernel
theorem dX6_leastFeigning_36 : decode cX6_leastFeigning 36 = .ok (.invokevirtual 66, 3) := by decide +kernel
theorem dX6_leastFeigning_39 : decode cX6_leastFeigning 39 = .ok (.istore 4, 2) := by decide +kernel
theorem dX6_leastFeigning_41 : decode cX6_leastFeigning 41 = .ok (.aload_n 0, 1) := by decide +kernel
theorem dX6_leastFeigning_42 : decode cX6_leastFeigning 42 = .ok (.getfield 33, 3) := by decide +kernel
theorem dX6_leastFeigning_45 : decode cX6_leastFeigning 45 = .ok (.aload_n 0, 1) := by decide +kernel
theorem dX6_leastFeigning_46 : decode cX6_leastFeigning 46 = .ok (.getfield 12, 3) := by decide +kernel
theorem dX6_leastFeigning_49 : decode cX6_leastFeigning 49 = .ok (.iload_n 3, 1) := by decide +kernel
theorem dX6_leastFeigning_50 : decode cX6_leastFeigning 50 = .ok (.invokevirtual 43, 3) := by decide +kernel
theorem dX6_leastFeigning_53 : decode cX6_leastFeigning 53 = .ok (.iconst 3, 1) := by decide +kernel
theorem dX6_leastFeigning_54 : decode cX6_leastFeigning 54 = .ok (.aload_n 1, 1) := by decide +kernel
theorem dX6_leastFeigning_55 : decode cX6_leastFeigning 55 = .ok (.iload_n 2, 1) := by decide +kernel
theorem dX6_leastFeigning_56 : decode cX6_leastFeigning 56 = .ok (.iconst 0, 1) := by decide +kernel
theorem dX6_leastFeigning_57 : decode cX6_leastFeigning 57 = .ok (.invokevirtual 69, 3) := by decide +kernel
theorem dX6_leastFeigning_60 : decode cX6_leastFeigning 60 = .ok (.isub, 1) := by decide +kernel
theorem dX6_leastFeigning_61 : decode cX6_leastFeigning 61 = .ok (.istore 5, 2) := by decide +kernel
theorem dX6_leastFeigning_63 : decode cX6_leastFeigning 63 = .ok (.iconst 3, 1) := by decide +kernel
theorem dX6_leastFeigning_64 : decode cX6_leastFeigning 64 = .ok (.aload_n 1, 1) := by decide +kernel
theorem dX6_leastFeigning_65 : decode cX6_leastFeigning 65 = .ok (.iload_n 2, 1) := by decide +kernel
theorem dX6_leastFeigning_66 : decode cX6_leastFeigning 66 = .ok (.iconst 1, 1) := by decide +kernel
theorem dX6_leastFeigning_67 : decode cX6_leastFeigning 67 = .ok (.invokevirtual 69, 3) := by decide +kernel
theorem dX6_leastFeigning_70 : decode cX6_leastFeigning 70 = .ok (.isub, 1) := by decide +kernel
theorem dX6_leastFeigning_71 : decode cX6_leastFeigning 71 = .ok (.istore 6, 2) := by decide +kernel
theorem dX6_leastFeigning_73 : decode cX6_leastFeigning 73 = .ok (.iconst 0, 1) := by decide +kernel
theorem dX6_leastFeigning_74 : decode cX6_leastFeigning 74 = .ok (.istore 7, 2) := by decide +kernel
theorem dX6_leastFeigning_76 : decode cX6_leastFeigning 76 = .ok (.iload 7, 2) := by decide +kernel
theorem dX6_leastFeigning_78 : decode cX6_leastFeigning 78 = .ok (.iload 5, 2) := by decide +kernel
theorem dX6_leastFeigning_80 : decode cX6_leastFeigning 80 = .ok (.iload 6, 2) := by decide +kernel
theorem dX6_leastFeigning_82 : decode cX6_leastFeigning 82 = .ok (.iadd, 1) := by decide +kernel
theorem dX6_leastFeigning_83 : decode cX6_leastFeigning 83 = .ok (.if_icmp .gt 117, 3) := by decide +kernel
theorem dX6_leastFeigning_86 : decode cX6_leastFeigning 86 = .ok (.iconst 0, 1) := by decide +kernel
theorem dX6_leastFeigning_87 : decode cX6_leastFeigning 87 = .ok (.istore 8, 2) := by decide +kernel
theorem dX6_leastFeigning_89 : decode cX6_leastFeigning 89 = .ok (.iload 8, 2) := by decide +kernel
theorem dX6_leastFeigning_91 : decode cX6_leastFeigning 91 = .ok (.iload 5, 2) := by decide +kernel
theorem dX6_leastFeigning_93 : decode cX6_leastFeigning 93 = .ok (.if_icmp .gt 101, 3) := by decide +kernel
theorem dX6_leastFeigning_96 : decode cX6_leastFeigning 96 = .ok (.iload 7, 2) := by decide +kernel
theorem dX6_leastFeigning_98 : decode cX6_leastFeigning 98 = .ok (.iload 8, 2) := by decide +kernel
theorem dX6_leastFeigning_100 : decode cX6_leastFeigning 100 = .ok (.isub, 1) := by decide +kernel
theorem dX6_leastFeigning_101 : decode cX6_leastFeigning 101 = .ok (.istore 9, 2) := by decide +kernel
theorem dX6_leastFeigning_103 : decode cX6_leastFeigning 103 = .ok (.iload 9, 2) := by decide +kernel
theorem dX6_leastFeigning_105 : decode cX6_leastFeigning 105 = .ok (.ifCond .lt 83, 3) := by decide +kernel
theorem dX6_leastFeigning_108 : decode cX6_leastFeigning 108 = .ok (.iload 9, 2) := by decide +kernel
theorem dX6_leastFeigning_110 : decode cX6_leastFeigning 110 = .ok (.iload 6, 2) := by decide +kernel
theorem dX6_leastFeigning_112 : decode cX6_leastFeigning 112 = .ok (.if_icmp .gt 76, 3) := by decide +kernel
theorem dX6_leastFeigning_115 : decode cX6_leastFeigning 115 = .ok (.aload_n 0, 1) := by decide +kernel
theorem dX6_leastFeigning_116 : decode cX6_leastFeigning 116 = .ok (.getfield 12, 3) := by decide +kernel
theorem dX6_leastFeigning_119 : decode cX6_leastFeigning 119 = .ok (.iload_n 2, 1) := by decide +kernel
theorem dX6_leastFeigning_120 : decode cX6_leastFeigning 120 = .ok (.iconst 0, 1) := by decide +kernel
theorem dX6_leastFeigning_121 : decode cX6_leastFeigning 121 = .ok (.aload_n 1, 1) := by decide +kernel
theorem dX6_leastFeigning_122 : decode cX6_leastFeigning 122 = .ok (.iload_n 2, 1) := by decide +kernel
theorem dX6_leastFeigning_123 : decode cX6_leastFeigning 123 = .ok (.iconst 0, 1) := by decide +kernel
theorem dX6_leastFeigning_124 : decode cX6_leastFeigning 124 = .ok (.invokevirtual 69, 3) := by decide +kernel
theorem dX6_leastFeigning_127 : decode cX6_leastFeigning 127 = .ok (.iload 8, 2) := by decide +kernel
theorem dX6_leastFeigning_129 : decode cX6_leastFeigning 129 = .ok (.iadd, 1) := by decide +kernel
theorem dX6_leastFeigning_130 : decode cX6_leastFeigning 130 = .ok (.invokevirtual 73, 3) := by decide +kernel
theorem dX6_leastFeigning_133 : decode cX6_leastFeigning 133 = .ok (.aload_n 0, 1) := by decide +kernel
theorem dX6_leastFeigning_134 : decode cX6_leastFeigning 134 = .ok (.getfield 12, 3) := by decide +kernel
theorem dX6_leastFeigning_137 : decode cX6_leastFeigning 137 = .ok (.iload_n 2, 1) := by decide +kernel
theorem dX6_leastFeigning_138 : decode cX6_leastFeigning 138 = .ok (.iconst 1, 1) := by decide +kernel
theorem dX6_leastFeigning_139 : decode cX6_leastFeigning 139 = .ok (.aload_n 1, 1) := by decide +kernel
theorem dX6_leastFeigning_140 : decode cX6_leastFeigning 140 = .ok (.iload_n 2, 1) := by decide +kernel
theorem dX6_leastFeigning_141 : decode cX6_leastFeigning 141 = .ok (.iconst 1, 1) := by decide +kernel
theorem dX6_leastFeigning_142 : decode cX6_leastFeigning 142 = .ok (.invokevirtual 69, 3) := by decide +kernel
theorem dX6_leastFeigning_145 : decode cX6_leastFeigning 145 = .ok (.iload 9, 2) := by decide +kernel
theorem dX6_leastFeigning_147 : decode cX6_leastFeigning 147 = .ok (.iadd, 1) := by decide +kernel
theorem dX6_leastFeigning_148 : decode cX6_leastFeigning 148 = .ok (.invokevirtual 73, 3) := by decide +kernel
theorem dX6_leastFeigning_151 : decode cX6_leastFeigning 151 = .ok (.aload_n 0, 1) := by decide +kernel
theorem dX6_leastFeigning_152 : decode cX6_leastFeigning 152 = .ok (.getfield 33, 3) := by decide +kernel
theorem dX6_leastFeigning_155 : decode cX6_leastFeigning 155 = .ok (.aload_n 0, 1) := by decide +kernel
theorem dX6_leastFeigning_156 : decode cX6_leastFeigning 156 = .ok (.getfield 12, 3) := by decide +kernel
theorem dX6_leastFeigning_159 : decode cX6_leastFeigning 159 = .ok (.iconst 1, 1) := by decide +kernel
theorem dX6_leastFeigning_160 : decode cX6_leastFeigning 160 = .ok (.iload_n 2, 1) := by decide +kernel
theorem dX6_leastFeigning_161 : decode cX6_leastFeigning 161 = .ok (.ishl, 1) := by decide +kernel
theorem dX6_leastFeigning_162 : decode cX6_leastFeigning 162 = .ok (.invokevirtual 43, 3) := by decide +kernel
theorem dX6_leastFeigning_165 : decode cX6_leastFeigning 165 = .ok (.aload_n 0, 1) := by decide +kernel
theorem dX6_leastFeigning_166 : decode cX6_leastFeigning 166 = .ok (.getfield 33, 3) := by decide +kernel
theorem dX6_leastFeigning_169 : decode cX6_leastFeigning 169 = .ok (.iload_n 3, 1) := by decide +kernel
theorem dX6_leastFeigning_170 : decode cX6_leastFeigning 170 = .ok (.iload 4, 2) := by decide +kernel
theorem dX6_leastFeigning_172 : decode cX6_leastFeigning 172 = .ok (.invokevirtual 77, 3) := by decide +kernel
theorem dX6_leastFeigning_175 : decode cX6_leastFeigning 175 = .ok (.iload_n 2, 1) := by decide +kernel
theorem dX6_leastFeigning_176 : decode cX6_leastFeigning 176 = .ok (.if_icmp .ne 12, 3) := by decide +kernel
theorem dX6_leastFeigning_179 : decode cX6_leastFeigning 179 = .ok (.bipush 10, 2) := by decide +kernel
theorem dX6_leastFeigning_181 : decode cX6_leastFeigning 181 = .ok (.iload 8, 2) := by decide +kernel
theorem dX6_leastFeigning_183 : decode cX6_leastFeigning 183 = .ok (.imul, 1) := by decide +kernel
theorem dX6_leastFeigning_184 : decode cX6_leastFeigning 184 = .ok (.iload 9, 2) := by decide +kernel
theorem dX6_leastFeigning_186 : decode cX6_leastFeigning 186 = .ok (.iadd, 1) := by decide +kernel
theorem dX6_leastFeigning_187 : decode cX6_leastFeigning 187 = .ok (.ireturn, 1) := by decide +kernel
theorem dX6_leastFeigning_188 : decode cX6_leastFeigning 188 = .ok (.iinc 8 1, 3) := by decide +kernel
theorem dX6_leastFeigning_191 : decode cX6_leastFeigning 191 = .ok (.goto (-102), 3) := by decide +kernel
theorem dX6_leastFeigning_194 : decode cX6_leastFeigning 194 = .ok (.iinc 7 1, 3) := by decide +kernel
theorem dX6_leastFeigning_197 : decode cX6_leastFeigning 197 = .ok (.goto (-121), 3) := by decide +kernel
theorem dX6_leastFeigning_200 : decode cX6_leastFeigning 200 = .ok (.iconst (-1), 1) := by decide +kernel
theorem dX6_leastFeigning_201 : decode cX6_leastFeigning 201 = .ok (.ireturn, 1) := by decide +kernel
set_option maxRecDepth 100000 in
theorem gC_X6_12_77 {Q : Option AV → Mm → Prop} {K : KT} {cc : ByteArray} {nL d : Nat} {ret : Option FieldType} {pc n : Nat} {ls : List (Option AV)} {st : List AV} {μ : Mm} (hO : KOk PC Q K cc RX6 nL d ret) (hd : decode cc pc = .ok (.getfield 12, 3)) (hn : pc + 3 = n) (kk : AW K n ls (vR 78 :: st) μ) : AW K pc ls (vR 77 :: st) μ := aw_get (f := 2) hO hd hn okX6 (by decide) (lw_t1 237 rfl rfl) (by decide) rfl rfl rfl kk
set_option maxHeartbeats 4000000 in
set_option maxRecDepth 100000 in
theorem cJ_leastFeigning {μ ν : Mm} (h : JR μ 27 ν) {p : Nat} (hp : (p : Int) < ν.1 0 25) : CtE PC 4 yX6_leastFeigning cX6_leastFeigning 10 (some .int) [vR 77, vR 27, vI ((p : Nat) : Int)] μ (fun r m => r = fgM ν p ∧ Fr qS μ m) := by
  refine ct_intro [some (vR 77), some (vR 27), some (vI ((p : Nat) : Int)), none, none, none, none, none, none, none] RX6 (by decide) rfl XCo rfl (Nat.le_of_ble_eq_true rfl) (fun K hO => ?_)
  have hs := h.ob
  have hnp := h.B.np
  have hnt := h.B.nt
  have hr := h.B.now.rest
  have hme := h.B.now.met (p := p) (by omega)
  have f0 := h.B.now.fei (j := 6 + 2 * p) (by omega) (by omega)
  have f1 := h.B.now.fei (j := 6 + 2 * p + 1) (by omega) (by omega)
  refine aw_aload_n hO dX6_leastFeigning_0 rfl rfl ?_
  refine gC_X6_12_77 hO dX6_leastFeigning_1 rfl ?_
  refine aw_aload_n hO dX6_leastFeigning_4 rfl rfl ?_
  refine aw_callVV (as := [vR 27]) (st := []) hO dX6_leastFeigning_5 rfl (lw_t4 175 rfl rfl) kX7_copyFrom (T := TX7) rfl (by decide) rfl (ctC_7_copyFrom μ sob78 sob27) (by decide) rfl rfl rfl (Nat.le_of_ble_eq_true rfl) (fun μ2 hq3 => ?_)
  have e_μ2 := hq3
  have hJc : JR μ2 78 ν := by rw [e_μ2]; exact h.cp
  have hFc : Fr qS μ μ2 := by rw [e_μ2]; exact Fr.rf.cp (fun i => Or.inr (Or.inl rfl)) _ _ _
  refine aw_aload_n hO dX6_leastFeigning_8 rfl rfl ?_
  refine gC_X6_12_77 hO dX6_leastFeigning_9 rfl ?_
  refine aw_iload_n hO dX6_leastFeigning_12 rfl rfl ?_
  refine aw_callVV (as := [vI ((p : Nat) : Int)]) (st := []) hO dX6_leastFeigning_13 rfl (lw_t4 180 rfl rfl) kX7_meet (T := TX7) rfl (by decide) rfl (ctC_7_meet μ2 sob78 (p := p) (by omega) (by rw [hJc.S.met (by omega)]; exact hme)) (by decide) rfl rfl rfl (Nat.le_of_ble_eq_true rfl) (fun μ5 hq6 => ?_)
  have e_μ5 := hq6
  have hSm : ST μ2 78 (tryF (ν.1 17) p (ν.1 17 (6 + 2 * p)) (ν.1 17 (6 + 2 * p + 1))) μ5 := by rw [tryF_0 (by omega), e_μ5, hJc.S.met (by omega)]; exact (ST.rf hJc.S).met (by omega) _
  obtain ⟨ν1, hν1⟩ : ∃ ν1, ν1 = wN ν (tryF (ν.1 17) p (ν.1 17 (6 + 2 * p)) (ν.1 17 (6 + 2 * p + 1))) := ⟨_, rfl⟩
  have hJ_μ5 : JR μ5 78 ν1 := by rw [hν1]; exact hJc.to hSm (tryF_ok h.B.now (by omega) f0 f1)
  have hF_μ5 := hFc.tr hSm.qs
  have hn1 : ν1.1 0 25 = ν.1 0 25 := by rw [hν1]; rfl
  refine aw_aload_n hO dX6_leastFeigning_16 rfl rfl ?_
  refine gC_X6_33_77 hO dX6_leastFeigning_17 rfl ?_
  refine aw_aload_n hO dX6_leastFeigning_20 rfl rfl ?_
  refine gC_X6_12_77 hO dX6_leastFeigning_21 rfl ?_
  refine aw_callVI (as := [vR 78]) (st := []) hO dX6_leastFeigning_24 rfl (lw_t4 163 rfl rfl) kX3_candidates (T := TX3) rfl (by decide) rfl (cJ_candidates hJ_μ5) (by decide) rfl rfl rfl (Nat.le_of_ble_eq_true rfl) ?_
  refine aw_istore_n (ls' := [some (vR 77), some (vR 27), some (vI ((p : Nat) : Int)), some (vI (canT ν1)), none, none, none, none, none, none]) hO dX6_leastFeigning_27 rfl (Nat.le_of_ble_eq_true rfl) rfl rfl ?_
  refine aw_aload_n hO dX6_leastFeigning_28 rfl rfl ?_
  refine gC_X6_33_77 hO dX6_leastFeigning_29 rfl ?_
  refine aw_aload_n hO dX6_leastFeigning_32 rfl rfl ?_
  refine gC_X6_12_77 hO dX6_leastFeigning_33 rfl ?_
  refine aw_callVI (as := [vR 78]) (st := []) hO dX6_leastFeigning_36 rfl (lw_t4 181 rfl rfl) kX3_inTown (T := TX3) rfl (by decide) rfl (cJ_inTown hJ_μ5) (by decide) rfl rfl rfl (Nat.le_of_ble_eq_true rfl) ?_
  refine aw_istore (ls' := [some (vR 77), some (vR 27), some (vI ((p : Nat) : Int)), some (vI (canT ν1)), some (vI (inT ν1)), none, none, none, none, none]) hO dX6_leastFeigning_39 rfl (Nat.le_of_ble_eq_true rfl) rfl rfl ?_
  refine aw_aload_n hO dX6_leastFeigning_41 rfl rfl ?_
  refine gC_X6_33_77 hO dX6_leastFeigning_42 rfl ?_
  refine aw_aload_n hO dX6_leastFeigning_45 rfl rfl ?_
  refine gC_X6_12_77 hO dX6_leastFeigning_46 rfl ?_
  refine aw_iload_n hO dX6_leastFeigning_49 rfl rfl ?_
  refine aw_callVV (as := [vR 78, vI (canT ν1)]) (st := []) hO dX6_leastFeigning_50 rfl (lw_t4 164 rfl rfl) kX3_weigh (T := TX3) rfl (by decide) rfl (cJ_weigh hJ_μ5 (b := (canT ν1))) (by decide) rfl rfl rfl (Nat.le_of_ble_eq_true rfl) (fun μ8 hq9 => ?_)
  have hT0 : TF μ ν p (canT ν1) (ν.1 17 (6 + 2 * p)) (ν.1 17 (6 + 2 * p + 1)) μ8 := ⟨hF_μ5.tr (hq9.1.mono (fun _ _ e => jS_q e)), by rw [← hν1]; exact hJ_μ5.fj hq9.1, fun o ho hop hc => by rw [hq9.2 o, hn1, if_pos ⟨ho, hc⟩, ← hν1]⟩
  refine aw_iconst hO dX6_leastFeigning_53 rfl ?_
  refine aw_aload_n hO dX6_leastFeigning_54 rfl rfl ?_
  refine aw_iload_n hO dX6_leastFeigning_55 rfl rfl ?_
  refine aw_iconst hO dX6_leastFeigning_56 rfl ?_
  refine aw_callVI (as := [vI ((p : Nat) : Int), vI 0]) (st := [vI 3]) hO dX6_leastFeigning_57 rfl (lw_t4 182 rfl rfl) kX7_feigned (T := TX7) rfl (by decide) rfl (cJ_feigned (h.fq hT0.1).ob (h.fq hT0.1).S (p := p) (t := 0) (by omega) (by omega)) (by decide) rfl rfl rfl (Nat.le_of_ble_eq_true rfl) ?_
  refine aw_isub hO dX6_leastFeigning_60 rfl ?_
  refine aw_istore (ls' := [some (vR 77), some (vR 27), some (vI ((p : Nat) : Int)), some (vI (canT ν1)), some (vI (inT ν1)), some (vI (3 - (ν.1 17 (6 + 2 * p + 0)))), none, none, none, none]) hO dX6_leastFeigning_61 rfl (Nat.le_of_ble_eq_true rfl) rfl rfl ?_
  refine aw_iconst hO dX6_leastFeigning_63 rfl ?_
  refine aw_aload_n hO dX6_leastFeigning_64 rfl rfl ?_
  refine aw_iload_n hO dX6_leastFeigning_65 rfl rfl ?_
  refine aw_iconst hO dX6_leastFeigning_66 rfl ?_
  refine aw_callVI (as := [vI ((p : Nat) : Int), vI 1]) (st := [vI 3]) hO dX6_leastFeigning_67 rfl (lw_t4 182 rfl rfl) kX7_feigned (T := TX7) rfl (by decide) rfl (cJ_feigned (h.fq hT0.1).ob (h.fq hT0.1).S (p := p) (t := 1) (by omega) (by omega)) (by decide) rfl rfl rfl (Nat.le_of_ble_eq_true rfl) ?_
  refine aw_isub hO dX6_leastFeigning_70 rfl ?_
  refine aw_istore (ls' := [some (vR 77), some (vR 27), some (vI ((p : Nat) : Int)), some (vI (canT ν1)), some (vI (inT ν1)), some (vI (3 - (ν.1 17 (6 + 2 * p + 0)))), some (vI (3 - (ν.1 17 (6 + 2 * p + 1)))), none, none, none]) hO dX6_leastFeigning_71 rfl (Nat.le_of_ble_eq_true rfl) rfl rfl ?_
  refine aw_iconst hO dX6_leastFeigning_73 rfl ?_
  refine aw_istore (ls' := [some (vR 77), some (vR 27), some (vI ((p : Nat) : Int)), some (vI (canT ν1)), some (vI (inT ν1)), some (vI (3 - (ν.1 17 (6 + 2 * p + 0)))), some (vI (3 - (ν.1 17 (6 + 2 * p + 1)))), some (vI 0), none, none]) hO dX6_leastFeigning_74 rfl (Nat.le_of_ble_eq_true rfl) rfl rfl ?_
  obtain ⟨A, hA⟩ : ∃ A : Nat, (A : Int) = 3 - ν.1 17 (6 + 2 * p) := ⟨(3 - ν.1 17 (6 + 2 * p)).toNat, by omega⟩
  obtain ⟨B, hB⟩ : ∃ B : Nat, (B : Int) = 3 - ν.1 17 (6 + 2 * p + 1) := ⟨(3 - ν.1 17 (6 + 2 * p + 1)).toNat, by omega⟩
  have hfg : fgM ν p = fgO (fun a b => pkB ν p a b) (B + 1) (A + 1) := by unfold fgM; rw [show (4 - ν.1 17 (6 + 2 * p + 1)).toNat = B + 1 by omega, show (4 - ν.1 17 (6 + 2 * p)).toNat = A + 1 by omega]
  have tr_ : ∀ (x y : Int), canT (wN ν (tryF (ν.1 17) p x y)) = canT ν1 ∧ inT (wN ν (tryF (ν.1 17) p x y)) = inT ν1 := fun x y => by rw [hν1]; exact ⟨canT_row (fun q hq => by rw [tryF_ne (by omega) (by omega), tryF_ne (by omega) (by omega)]) (by rw [tryF_ne (by omega) (by omega), tryF_ne (by omega) (by omega)]), inT_row (by rw [tryF_ne (by omega) (by omega), tryF_ne (by omega) (by omega)])⟩
  have inn : ∀ (t : Nat), t ≤ A + B → (∀ (x y : Int) (m : Mm), (0 ≤ x ∧ x ≤ 3) → (0 ≤ y ∧ y ≤ 3) → TF μ ν p (canT ν1) x y m → (∀ a' b', a' ≤ A → b' ≤ B → a' + b' < t + 1 → pkB ν p a' b' = false) → AW K 194 [some (vR 77), some (vR 27), some (vI ((p : Nat) : Int)), some (vI (canT ν1)), some (vI (inT ν1)), some (vI (3 - ν.1 17 (6 + 2 * p))), some (vI (3 - ν.1 17 (6 + 2 * p + 1))), some (vI ((t : Nat) : Int)), none, none] [] m) → ∀ (c a : Nat) (x y : Int) (m : Mm), a + c = A + 1 → (0 ≤ x ∧ x ≤ 3) → (0 ≤ y ∧ y ≤ 3) → TF μ ν p (canT ν1) x y m → (∀ a' b', a' ≤ A → b' ≤ B → (a' + b' < t ∨ (a' + b' = t ∧ a' < a)) → pkB ν p a' b' = false) → AW K 89 [some (vR 77), some (vR 27), some (vI ((p : Nat) : Int)), some (vI (canT ν1)), some (vI (inT ν1)), some (vI (3 - ν.1 17 (6 + 2 * p))), some (vI (3 - ν.1 17 (6 + 2 * p + 1))), some (vI ((t : Nat) : Int)), some (vI ((a : Nat) : Int)), none] [] m := by
    intro t htt k194 c
    induction c with
    | zero =>
      intro a x y m hac hx hy hT hN
      refine aw_iload hO dX6_leastFeigning_89 rfl rfl ?_
      refine aw_iload hO dX6_leastFeigning_91 rfl rfl ?_
      refine aw_icmp_gt (tgt := 194) hO dX6_leastFeigning_93 rfl rfl (inRn (by omega)) ⟨by omega, by omega⟩ (fun c93 => ?_) (fun c93 => ?_)
      · refine aw_fg (ls' := [some (vR 77), some (vR 27), some (vI ((p : Nat) : Int)), some (vI (canT ν1)), some (vI (inT ν1)), some (vI (3 - ν.1 17 (6 + 2 * p))), some (vI (3 - ν.1 17 (6 + 2 * p + 1))), some (vI ((t : Nat) : Int)), none, none]) ⟨rfl, rfl, rfl, rfl, rfl, rfl, rfl, rfl, trivial⟩ ?_
        exact k194 x y m hx hy hT (fun a' b' h1 h2 h3 => hN a' b' h1 h2 (by omega))
      · exact absurd c93 (by omega)
    | succ c ih =>
      intro a x y m hac hx hy hT hN
      refine aw_iload hO dX6_leastFeigning_89 rfl rfl ?_
      refine aw_iload hO dX6_leastFeigning_91 rfl rfl ?_
      refine aw_icmp_gt (tgt := 194) hO dX6_leastFeigning_93 rfl rfl (inRn (by omega)) ⟨by omega, by omega⟩ (fun c93 => ?_) (fun c93 => ?_)
      · exact absurd c93 (by omega)
      · refine aw_iload hO dX6_leastFeigning_96 rfl rfl ?_
        refine aw_iload hO dX6_leastFeigning_98 rfl rfl ?_
        refine aw_isub hO dX6_leastFeigning_100 rfl ?_
        refine aw_istore (ls' := [some (vR 77), some (vR 27), some (vI ((p : Nat) : Int)), some (vI (canT ν1)), some (vI (inT ν1)), some (vI (3 - ν.1 17 (6 + 2 * p))), some (vI (3 - ν.1 17 (6 + 2 * p + 1))), some (vI ((t : Nat) : Int)), some (vI ((a : Nat) : Int)), some (vI (((t : Nat) : Int) - ((a : Nat) : Int)))]) hO dX6_leastFeigning_101 rfl (Nat.le_of_ble_eq_true rfl) rfl rfl ?_
        refine aw_iload hO dX6_leastFeigning_103 rfl rfl ?_
        refine aw_if_lt (tgt := 188) hO dX6_leastFeigning_105 rfl rfl ⟨by omega, by omega⟩ (fun c105 => ?_) (fun c105 => ?_)
        · refine aw_iinc (ls' := [some (vR 77), some (vR 27), some (vI ((p : Nat) : Int)), some (vI (canT ν1)), some (vI (inT ν1)), some (vI (3 - ν.1 17 (6 + 2 * p))), some (vI (3 - ν.1 17 (6 + 2 * p + 1))), some (vI ((t : Nat) : Int)), some (vI (((a : Nat) : Int) + 1)), some (vI (((t : Nat) : Int) - ((a : Nat) : Int)))]) hO dX6_leastFeigning_188 rfl rfl rfl rfl ?_
          refine aw_lsq (ls' := [some (vR 77), some (vR 27), some (vI ((p : Nat) : Int)), some (vI (canT ν1)), some (vI (inT ν1)), some (vI (3 - ν.1 17 (6 + 2 * p))), some (vI (3 - ν.1 17 (6 + 2 * p + 1))), some (vI ((t : Nat) : Int)), some (vI (((a + 1) : Nat) : Int)), some (vI (((t : Nat) : Int) - ((a : Nat) : Int)))]) rfl ?_
          refine aw_goto (tgt := 89) hO dX6_leastFeigning_191 rfl ?_
          refine aw_fg (ls' := [some (vR 77), some (vR 27), some (vI ((p : Nat) : Int)), some (vI (canT ν1)), some (vI (inT ν1)), some (vI (3 - ν.1 17 (6 + 2 * p))), some (vI (3 - ν.1 17 (6 + 2 * p + 1))), some (vI ((t : Nat) : Int)), some (vI ((a + 1 : Nat) : Int)), none]) ⟨rfl, rfl, rfl, rfl, rfl, rfl, rfl, rfl, rfl, trivial⟩ ?_
          exact ih (a + 1) x y m (by omega) hx hy hT (fun a' b' h1 h2 h3 => by by_cases e : a' + b' = t ∧ a' = a; exact absurd c105 (by omega); exact hN a' b' h1 h2 (by omega))
        · refine aw_iload hO dX6_leastFeigning_108 rfl rfl ?_
          refine aw_iload hO dX6_leastFeigning_110 rfl rfl ?_
          refine aw_icmp_gt (tgt := 188) hO dX6_leastFeigning_112 rfl rfl ⟨by omega, by omega⟩ ⟨by omega, by omega⟩ (fun c112 => ?_) (fun c112 => ?_)
          · refine aw_iinc (ls' := [some (vR 77), some (vR 27), some (vI ((p : Nat) : Int)), some (vI (canT ν1)), some (vI (inT ν1)), some (vI (3 - ν.1 17 (6 + 2 * p))), some (vI (3 - ν.1 17 (6 + 2 * p + 1))), some (vI ((t : Nat) : Int)), some (vI (((a : Nat) : Int) + 1)), some (vI (((t : Nat) : Int) - ((a : Nat) : Int)))]) hO dX6_leastFeigning_188 rfl rfl rfl rfl ?_
            refine aw_lsq (ls' := [some (vR 77), some (vR 27), some (vI ((p : Nat) : Int)), some (vI (canT ν1)), some (vI (inT ν1)), some (vI (3 - ν.1 17 (6 + 2 * p))), some (vI (3 - ν.1 17 (6 + 2 * p + 1))), some (vI ((t : Nat) : Int)), some (vI (((a + 1) : Nat) : Int)), some (vI (((t : Nat) : Int) - ((a : Nat) : Int)))]) rfl ?_
            refine aw_goto (tgt := 89) hO dX6_leastFeigning_191 rfl ?_
            refine aw_fg (ls' := [some (vR 77), some (vR 27), some (vI ((p : Nat) : Int)), some (vI (canT ν1)), some (vI (inT ν1)), some (vI (3 - ν.1 17 (6 + 2 * p))), some (vI (3 - ν.1 17 (6 + 2 * p + 1))), some (vI ((t : Nat) : Int)), some (vI ((a + 1 : Nat) : Int)), none]) ⟨rfl, rfl, rfl, rfl, rfl, rfl, rfl, rfl, rfl, trivial⟩ ?_
            exact ih (a + 1) x y m (by omega) hx hy hT (fun a' b' h1 h2 h3 => by by_cases e : a' + b' = t ∧ a' = a; exact absurd c112 (by omega); exact hN a' b' h1 h2 (by omega))
          · obtain ⟨b, hb⟩ : ∃ b : Nat, ((t : Nat) : Int) - ((a : Nat) : Int) = (b : Int) := ⟨t - a, by omega⟩
            refine aw_lsq (ls' := [some (vR 77), some (vR 27), some (vI ((p : Nat) : Int)), some (vI (canT ν1)), some (vI (inT ν1)), some (vI (3 - ν.1 17 (6 + 2 * p))), some (vI (3 - ν.1 17 (6 + 2 * p + 1))), some (vI ((t : Nat) : Int)), some (vI ((a : Nat) : Int)), some (vI ((b : Nat) : Int))]) (by rw [hb]) ?_
            have hx2 : 0 ≤ ν.1 17 (6 + 2 * p) + (a : Int) ∧ ν.1 17 (6 + 2 * p) + (a : Int) ≤ 3 := by omega
            have hy2 : 0 ≤ ν.1 17 (6 + 2 * p + 1) + (b : Int) ∧ ν.1 17 (6 + 2 * p + 1) + (b : Int) ≤ 3 := by omega
            refine aw_aload_n hO dX6_leastFeigning_115 rfl rfl ?_
            refine gC_X6_12_77 hO dX6_leastFeigning_116 rfl ?_
            refine aw_iload_n hO dX6_leastFeigning_119 rfl rfl ?_
            refine aw_iconst hO dX6_leastFeigning_120 rfl ?_
            refine aw_aload_n hO dX6_leastFeigning_121 rfl rfl ?_
            refine aw_iload_n hO dX6_leastFeigning_122 rfl rfl ?_
            refine aw_iconst hO dX6_leastFeigning_123 rfl ?_
            refine aw_callVI (as := [vI ((p : Nat) : Int), vI 0]) (st := [vI 0, vI ((p : Nat) : Int), vR 78]) hO dX6_leastFeigning_124 rfl (lw_t4 182 rfl rfl) kX7_feigned (T := TX7) rfl (by decide) rfl (cJ_feigned (h.fq hT.1).ob (h.fq hT.1).S (p := p) (t := 0) (by omega) (by omega)) (by decide) rfl rfl rfl (Nat.le_of_ble_eq_true rfl) ?_
            refine aw_iload hO dX6_leastFeigning_127 rfl rfl ?_
            refine aw_iadd hO dX6_leastFeigning_129 rfl ?_
            refine aw_callVV (as := [vI ((p : Nat) : Int), vI 0, vI ((ν.1 17 (6 + 2 * p + 0)) + ((a : Nat) : Int))]) (st := []) hO dX6_leastFeigning_130 rfl (lw_t4 183 rfl rfl) kX7_setFeigned (T := TX7) rfl (by decide) rfl (ctC_7_setFeigned m sob78 (p := p) (t := 0) (v := ((ν.1 17 (6 + 2 * p + 0)) + ((a : Nat) : Int))) (by omega) (by decide)) (by decide) rfl rfl rfl (Nat.le_of_ble_eq_true rfl) (fun μ11 hq12 => ?_)
            have e_μ11 := hq12
            have hS1 : ST m 78 (tryF (ν.1 17) p (ν.1 17 (6 + 2 * p) + (a : Int)) y) μ11 := by
              have q := ST.rf hT.2.1.S
              rw [wN_17] at q
              rw [← tryF_x (x := x), e_μ11]
              exact q.st (by omega) (by omega) (ri_fei (t := 0) (by omega) (by decide)) _
            have hT1 := hT.mv (by omega) hS1 hx2 hy h.B.now
            refine aw_aload_n hO dX6_leastFeigning_133 rfl rfl ?_
            refine gC_X6_12_77 hO dX6_leastFeigning_134 rfl ?_
            refine aw_iload_n hO dX6_leastFeigning_137 rfl rfl ?_
            refine aw_iconst hO dX6_leastFeigning_138 rfl ?_
            refine aw_aload_n hO dX6_leastFeigning_139 rfl rfl ?_
            refine aw_iload_n hO dX6_leastFeigning_140 rfl rfl ?_
            refine aw_iconst hO dX6_leastFeigning_141 rfl ?_
            refine aw_callVI (as := [vI ((p : Nat) : Int), vI 1]) (st := [vI 1, vI ((p : Nat) : Int), vR 78]) hO dX6_leastFeigning_142 rfl (lw_t4 182 rfl rfl) kX7_feigned (T := TX7) rfl (by decide) rfl (cJ_feigned (h.fq hT1.1).ob (h.fq hT1.1).S (p := p) (t := 1) (by omega) (by omega)) (by decide) rfl rfl rfl (Nat.le_of_ble_eq_true rfl) ?_
            refine aw_iload hO dX6_leastFeigning_145 rfl rfl ?_
            refine aw_iadd hO dX6_leastFeigning_147 rfl ?_
            refine aw_callVV (as := [vI ((p : Nat) : Int), vI 1, vI ((ν.1 17 (6 + 2 * p + 1)) + ((b : Nat) : Int))]) (st := []) hO dX6_leastFeigning_148 rfl (lw_t4 183 rfl rfl) kX7_setFeigned (T := TX7) rfl (by decide) rfl (ctC_7_setFeigned μ11 sob78 (p := p) (t := 1) (v := ((ν.1 17 (6 + 2 * p + 1)) + ((b : Nat) : Int))) (by omega) (by decide)) (by decide) rfl rfl rfl (Nat.le_of_ble_eq_true rfl) (fun μ14 hq15 => ?_)
            have e_μ14 := hq15
            have hS2 : ST μ11 78 (tryF (ν.1 17) p (ν.1 17 (6 + 2 * p) + (a : Int)) (ν.1 17 (6 + 2 * p + 1) + (b : Int))) μ14 := by
              have q := ST.rf hT1.2.1.S
              rw [wN_17] at q
              rw [← tryF_y (y := y), e_μ14]
              exact q.st (by omega) (by omega) (ri_fei (t := 1) (by omega) (by decide)) _
            have hT2 := hT1.mv (by omega) hS2 hx2 hy2 h.B.now
            refine aw_aload_n hO dX6_leastFeigning_151 rfl rfl ?_
            refine gC_X6_33_77 hO dX6_leastFeigning_152 rfl ?_
            refine aw_aload_n hO dX6_leastFeigning_155 rfl rfl ?_
            refine gC_X6_12_77 hO dX6_leastFeigning_156 rfl ?_
            refine aw_iconst hO dX6_leastFeigning_159 rfl ?_
            refine aw_iload_n hO dX6_leastFeigning_160 rfl rfl ?_
            refine aw_ishl hO dX6_leastFeigning_161 rfl ?_
            refine aw_callVV (as := [vR 78, vI (bShl 1 ((p : Nat) : Int))]) (st := []) hO dX6_leastFeigning_162 rfl (lw_t4 164 rfl rfl) kX3_weigh (T := TX3) rfl (by decide) rfl (cJ_weigh hT2.2.1 (b := (bShl 1 ((p : Nat) : Int)))) (by decide) rfl rfl rfl (Nat.le_of_ble_eq_true rfl) (fun μ17 hq18 => ?_)
            have hF3 := hq18.1
            have hA3 := hq18.2
            have hT3 : TF μ ν p (canT ν1) (ν.1 17 (6 + 2 * p) + (a : Int)) (ν.1 17 (6 + 2 * p + 1) + (b : Int)) μ17 := ⟨hT2.1.tr (hF3.mono (fun _ _ e => jS_q e)), hT2.2.1.fj hF3, fun o ho hop hc => by rw [hA3 o, if_neg (fun q => by have q2 := q.2; rw [hasB_shl (by omega) (by omega)] at q2; simp only [decide_eq_true_eq] at q2; omega)]; exact hT2.2.2 o ho hop hc⟩
            have hBt := hT3.2.1.B
            have hw3 : ∀ q, q < 6 → hasB (canT (wN ν (tryF (ν.1 17) p (ν.1 17 (6 + 2 * p) + (a : Int)) (ν.1 17 (6 + 2 * p + 1) + (b : Int))))) q = true → μ17.1 75 q = appealM (wN ν (tryF (ν.1 17) p (ν.1 17 (6 + 2 * p) + (a : Int)) (ν.1 17 (6 + 2 * p + 1) + (b : Int)))) q := fun q hq hc => by
              have hqn : q < (ν.1 0 25).toNat := canT_lt hBt hq hc
              by_cases e : q = p
              · subst e; rw [hA3 q, if_pos ⟨hqn, by rw [hasB_shl (by omega) (by omega)]; simp⟩]
              · exact hT3.2.2 q hqn e (by rw [(tr_ _ _).1] at hc; exact hc)
            have hpb := pick_best hBt hw3
            rw [(tr_ _ _).1, (tr_ _ _).2] at hpb
            have hR3 : ∀ q, q < 6 → hasB (canT ν1) q = true → InR (μ17.1 75 q) := fun q hq hc => by rw [hw3 q hq (by rw [(tr_ _ _).1]; exact hc)]; have := appealM_R (wN ν (tryF (ν.1 17) p (ν.1 17 (6 + 2 * p) + (a : Int)) (ν.1 17 (6 + 2 * p + 1) + (b : Int)))) q; exact ⟨by omega, by omega⟩
            have hpkr := pickM_rng (wN ν (tryF (ν.1 17) p (ν.1 17 (6 + 2 * p) + (a : Int)) (ν.1 17 (6 + 2 * p + 1) + (b : Int)))) (ν.1 0 25).toNat
            refine aw_aload_n hO dX6_leastFeigning_165 rfl rfl ?_
            refine gC_X6_33_77 hO dX6_leastFeigning_166 rfl ?_
            refine aw_iload_n hO dX6_leastFeigning_169 rfl rfl ?_
            refine aw_iload hO dX6_leastFeigning_170 rfl rfl ?_
            refine aw_callVI (as := [vI (canT ν1), vI (inT ν1)]) (st := []) hO dX6_leastFeigning_172 rfl (lw_t4 184 rfl rfl) kX3_choice (T := TX3) rfl (by decide) rfl (cJ_choice (h.fq hT3.1) (b := (canT ν1)) (t := (inT ν1)) hR3) (by decide) rfl rfl rfl (Nat.le_of_ble_eq_true rfl) ?_
            refine aw_cg (show _ = pickM (wN ν (tryF (ν.1 17) p (ν.1 17 (6 + 2 * p) + (a : Int)) (ν.1 17 (6 + 2 * p + 1) + (b : Int)))) (ν.1 0 25).toNat from hpb) ?_
            refine aw_iload_n hO dX6_leastFeigning_175 rfl rfl ?_
            refine aw_icmp_ne (tgt := 188) hO dX6_leastFeigning_176 rfl rfl ⟨by omega, by omega⟩ (inRn (by omega)) (fun c176 => ?_) (fun c176 => ?_)
            · have hno : pkB ν p a b = false := decide_eq_false c176
              refine aw_iinc (ls' := [some (vR 77), some (vR 27), some (vI ((p : Nat) : Int)), some (vI (canT ν1)), some (vI (inT ν1)), some (vI (3 - ν.1 17 (6 + 2 * p))), some (vI (3 - ν.1 17 (6 + 2 * p + 1))), some (vI ((t : Nat) : Int)), some (vI (((a : Nat) : Int) + 1)), some (vI ((b : Nat) : Int))]) hO dX6_leastFeigning_188 rfl rfl rfl rfl ?_
              refine aw_lsq (ls' := [some (vR 77), some (vR 27), some (vI ((p : Nat) : Int)), some (vI (canT ν1)), some (vI (inT ν1)), some (vI (3 - ν.1 17 (6 + 2 * p))), some (vI (3 - ν.1 17 (6 + 2 * p + 1))), some (vI ((t : Nat) : Int)), some (vI (((a + 1) : Nat) : Int)), some (vI ((b : Nat) : Int))]) rfl ?_
              refine aw_goto (tgt := 89) hO dX6_leastFeigning_191 rfl ?_
              refine aw_fg (ls' := [some (vR 77), some (vR 27), some (vI ((p : Nat) : Int)), some (vI (canT ν1)), some (vI (inT ν1)), some (vI (3 - ν.1 17 (6 + 2 * p))), some (vI (3 - ν.1 17 (6 + 2 * p + 1))), some (vI ((t : Nat) : Int)), some (vI ((a + 1 : Nat) : Int)), none]) ⟨rfl, rfl, rfl, rfl, rfl, rfl, rfl, rfl, rfl, trivial⟩ ?_
              exact ih (a + 1) (ν.1 17 (6 + 2 * p) + (a : Int)) (ν.1 17 (6 + 2 * p + 1) + (b : Int)) μ17 (by omega) hx2 hy2 hT3 (fun a' b' h1 h2 h3 => by by_cases e : a' + b' = t ∧ a' = a; rw [e.2, show b' = b by omega]; exact hno; exact hN a' b' h1 h2 (by omega))
            · have hyes : pkB ν p a b = true := decide_eq_true c176
              refine aw_bipush hO dX6_leastFeigning_179 rfl (by decide) (by decide) ?_
              refine aw_iload hO dX6_leastFeigning_181 rfl rfl ?_
              refine aw_imul hO dX6_leastFeigning_183 rfl ?_
              refine aw_iload hO dX6_leastFeigning_184 rfl rfl ?_
              refine aw_iadd hO dX6_leastFeigning_186 rfl ?_
              refine aw_iret hO dX6_leastFeigning_187 ?_
              exact ⟨_, rfl, by rw [hfg, fgO_found (a := a) (b := b) (by omega) (by omega) (by omega) (by omega) hyes (fun a' b' h1 h2 h3 => hN a' b' (by omega) (by omega) (by omega))], hT3.1⟩
  have out : ∀ (c t : Nat) (x y : Int) (m : Mm), t + c = A + B + 1 → (0 ≤ x ∧ x ≤ 3) → (0 ≤ y ∧ y ≤ 3) → TF μ ν p (canT ν1) x y m → (∀ a' b', a' ≤ A → b' ≤ B → a' + b' < t → pkB ν p a' b' = false) → AW K 76 [some (vR 77), some (vR 27), some (vI ((p : Nat) : Int)), some (vI (canT ν1)), some (vI (inT ν1)), some (vI (3 - ν.1 17 (6 + 2 * p))), some (vI (3 - ν.1 17 (6 + 2 * p + 1))), some (vI ((t : Nat) : Int)), none, none] [] m := by
    intro c
    induction c with
    | zero =>
      intro t x y m htc hx hy hT hN
      refine aw_iload hO dX6_leastFeigning_76 rfl rfl ?_
      refine aw_iload hO dX6_leastFeigning_78 rfl rfl ?_
      refine aw_iload hO dX6_leastFeigning_80 rfl rfl ?_
      refine aw_iadd hO dX6_leastFeigning_82 rfl ?_
      refine aw_icmp_gt (tgt := 200) hO dX6_leastFeigning_83 rfl rfl (inRn (by omega)) ⟨by omega, by omega⟩ (fun c83 => ?_) (fun c83 => ?_)
      · refine aw_iconst hO dX6_leastFeigning_200 rfl ?_
        refine aw_iret hO dX6_leastFeigning_201 ?_
        exact ⟨_, rfl, by rw [hfg, fgO_none (by omega) (by omega) (fun a' b' h1 h2 => hN a' b' (by omega) (by omega) (by omega))], hT.1⟩
      · exact absurd c83 (by omega)
    | succ c ih =>
      intro t x y m htc hx hy hT hN
      refine aw_iload hO dX6_leastFeigning_76 rfl rfl ?_
      refine aw_iload hO dX6_leastFeigning_78 rfl rfl ?_
      refine aw_iload hO dX6_leastFeigning_80 rfl rfl ?_
      refine aw_iadd hO dX6_leastFeigning_82 rfl ?_
      refine aw_icmp_gt (tgt := 200) hO dX6_leastFeigning_83 rfl rfl (inRn (by omega)) ⟨by omega, by omega⟩ (fun c83 => ?_) (fun c83 => ?_)
      · exact absurd c83 (by omega)
      · refine aw_iconst hO dX6_leastFeigning_86 rfl ?_
        refine aw_istore (ls' := [some (vR 77), some (vR 27), some (vI ((p : Nat) : Int)), some (vI (canT ν1)), some (vI (inT ν1)), some (vI (3 - ν.1 17 (6 + 2 * p))), some (vI (3 - ν.1 17 (6 + 2 * p + 1))), some (vI ((t : Nat) : Int)), some (vI 0), none]) hO dX6_leastFeigning_87 rfl (Nat.le_of_ble_eq_true rfl) rfl rfl ?_
        refine aw_lsq (ls' := [some (vR 77), some (vR 27), some (vI ((p : Nat) : Int)), some (vI (canT ν1)), some (vI (inT ν1)), some (vI (3 - ν.1 17 (6 + 2 * p))), some (vI (3 - ν.1 17 (6 + 2 * p + 1))), some (vI ((t : Nat) : Int)), some (vI ((0 : Nat) : Int)), none]) rfl ?_
        refine inn t (by omega) (fun x y m hx hy hT hN => ?_) (A + 1) 0 x y m (by omega) hx hy hT (fun a' b' h1 h2 h3 => hN a' b' h1 h2 (by omega))
        refine aw_iinc (ls' := [some (vR 77), some (vR 27), some (vI ((p : Nat) : Int)), some (vI (canT ν1)), some (vI (inT ν1)), some (vI (3 - ν.1 17 (6 + 2 * p))), some (vI (3 - ν.1 17 (6 + 2 * p + 1))), some (vI (((t : Nat) : Int) + 1)), none, none]) hO dX6_leastFeigning_194 rfl rfl rfl rfl ?_
        refine aw_lsq (ls' := [some (vR 77), some (vR 27), some (vI ((p : Nat) : Int)), some (vI (canT ν1)), some (vI (inT ν1)), some (vI (3 - ν.1 17 (6 + 2 * p))), some (vI (3 - ν.1 17 (6 + 2 * p + 1))), some (vI (((t + 1) : Nat) : Int)), none, none]) rfl ?_
        refine aw_goto (tgt := 76) hO dX6_leastFeigning_197 rfl ?_
        refine aw_lsq (ls' := [some (vR 77), some (vR 27), some (vI ((p : Nat) : Int)), some (vI (canT ν1)), some (vI (inT ν1)), some (vI (3 - ν.1 17 (6 + 2 * p))), some (vI (3 - ν.1 17 (6 + 2 * p + 1))), some (vI ((t + 1 : Nat) : Int)), none, none]) rfl ?_
        exact ih (t + 1) x y m (by omega) hx hy hT hN
  refine aw_lsq (ls' := [some (vR 77), some (vR 27), some (vI ((p : Nat) : Int)), some (vI (canT ν1)), some (vI (inT ν1)), some (vI (3 - (ν.1 17 (6 + 2 * p + 0)))), some (vI (3 - (ν.1 17 (6 + 2 * p + 1)))), some (vI ((0 : Nat) : Int)), none, none]) rfl ?_
  exact out (A + B + 1) 0 _ _ μ8 (by omega) f0 f1 hT0 (fun a' b' _ _ h3 => absurd h3 (Nat.not_lt_zero _))
