
/-! ## what a tape says, as a town -/
def itO (κ c : Int) : Int := if κ = 115 then (if c = 99 then 0 else if c = 107 then 1 else if c = 118 then 2 else if c = 109 then 3 else -1) else if κ = 112 then (if c = 99 then 0 else if c = 107 then 1 else if c = 118 then 2 else if c = 115 then 3 else -1) else (if c = 119 then 0 else if c = 110 then 1 else if c = 103 then 2 else -1)
def hiO (κ k : Int) : Int := if κ = 115 then (if k = 3 then 99 else 9) else if κ = 112 then (if k = 3 then 20 else 9) else (if k = 0 then 2 else 9)
def loO (κ k : Int) : Int := if κ = 116 ∧ k = 2 then 1 else 0
def usO (κ k : Int) : Int := if κ = 115 then (if k = 3 then 20 else if k = 2 then 2 else 3) else if κ = 112 then (if k = 3 then 0 else if k = 2 then 2 else 4) else (if k = 0 then 0 else if k = 1 then 5 else 3)
def usR (κ : Int) (k : Nat) : Int := usO κ (k : Int)
def pNb (g : Nat → Int) (lo hi : Int) (p : Nat) : Nat × Option Int := if isD (g p) then (match pDg g 2 p 0 with
    | (q, none) => (q, none)
    | (q, some v) => if lo ≤ v ∧ v ≤ hi then (sk g q, some v) else (q - 1, none)) else (p, none)
/-- items from p on: f more at most, the row so far, which were there -/
def pIt (g : Nat → Int) (κ : Int) : Nat → Nat → (Nat → Int) → Int → Nat × Option (Nat → Int)
  | 0, p, r, _ => (p, some r)
  | f + 1, p, r, s => if itO κ (g p) = -1 ∨ hasB s (itO κ (g p)).toNat = true then (p, some r) else (match pNb g (loO κ (itO κ (g p))) (hiO κ (itO κ (g p))) (sk g (p + 1)) with
    | (q, none) => (q, none)
    | (q, some v) => pIt g κ f q (fu r (itO κ (g p)).toNat v) (bOr s (bShl 1 (itO κ (g p)))))
theorem pIt_s {g : Nat → Int} {κ : Int} {f p : Nat} {r : Nat → Int} {s : Int} (h : itO κ (g p) = -1 ∨ hasB s (itO κ (g p)).toNat = true) : pIt g κ f p r s = (p, some r) := by
  cases f with
  | zero => rfl
  | succ f => rw [pIt, if_pos h]
theorem pIt_b {g : Nat → Int} {κ : Int} {f p q : Nat} {r : Nat → Int} {s : Int} (h : ¬ (itO κ (g p) = -1 ∨ hasB s (itO κ (g p)).toNat = true)) (e : pNb g (loO κ (itO κ (g p))) (hiO κ (itO κ (g p))) (sk g (p + 1)) = (q, none)) : pIt g κ (f + 1) p r s = (q, none) := by rw [pIt, if_neg h]; simp only [e]
theorem pIt_g {g : Nat → Int} {κ : Int} {f p q : Nat} {r : Nat → Int} {s v : Int} (h : ¬ (itO κ (g p) = -1 ∨ hasB s (itO κ (g p)).toNat = true)) (e : pNb g (loO κ (itO κ (g p))) (hiO κ (itO κ (g p))) (sk g (p + 1)) = (q, some v)) : pIt g κ (f + 1) p r s = pIt g κ f q (fu r (itO κ (g p)).toNat v) (bOr s (bShl 1 (itO κ (g p)))) := by rw [pIt, if_neg h]; simp only [e]
theorem itO_rng (κ c : Int) : -1 ≤ itO κ c ∧ itO κ c ≤ 3 := by
  unfold itO
  repeat' split
  all_goals omega
theorem itO_3 {κ c : Int} (h : κ ≠ 115) (h2 : κ ≠ 112) : itO κ c ≤ 2 := by
  unfold itO
  rw [if_neg h, if_neg h2]
  repeat' split
  all_goals omega
theorem itO_e {κ c : Int} (h : itO κ c ≠ -1) : c ≠ -1 := fun e => h (by
  rw [e]
  unfold itO
  split
  · rfl
  · split <;> rfl)
theorem hiO_rng (κ k : Int) : 0 ≤ hiO κ k ∧ hiO κ k ≤ 99 := by
  unfold hiO
  repeat' split
  all_goals omega
theorem loO_rng (κ k : Int) : 0 ≤ loO κ k ∧ loO κ k ≤ 1 := by
  unfold loO
  split <;> omega
theorem usO_rng (κ k : Int) : 0 ≤ usO κ k ∧ usO κ k ≤ 20 := by
  unfold usO
  repeat' split
  all_goals omega
theorem seen_all : ∀ (s : Fin 16) (k : Fin 4), (hasB ((s.val : Nat) : Int) k.val = true ∨ (bitC (bOr ((s.val : Nat) : Int) (bShl 1 ((k.val : Nat) : Int))) = bitC ((s.val : Nat) : Int) + 1 ∧ 0 ≤ bOr ((s.val : Nat) : Int) (bShl 1 ((k.val : Nat) : Int)) ∧ bOr ((s.val : Nat) : Int) (bShl 1 ((k.val : Nat) : Int)) ≤ 15)) ∧ (bitC ((s.val : Nat) : Int) = 4 → hasB ((s.val : Nat) : Int) k.val = true) := by decide +kernel
theorem seen_s {s k : Int} (h1 : 0 ≤ s) (h2 : s ≤ 15) (h3 : 0 ≤ k) (h4 : k ≤ 3) : (hasB s k.toNat = true ∨ (bitC (bOr s (bShl 1 k)) = bitC s + 1 ∧ 0 ≤ bOr s (bShl 1 k) ∧ bOr s (bShl 1 k) ≤ 15)) ∧ (bitC s = 4 → hasB s k.toNat = true) := by
  have := seen_all ⟨s.toNat, by omega⟩ ⟨k.toNat, by omega⟩
  simp only [Int.toNat_of_nonneg h1, Int.toNat_of_nonneg h3] at this
  exact this
theorem pNb_G {g : Nat → Int} {N : Nat} (hG : Gok g N) {lo hi : Int} {p : Nat} (hp : p ≤ N) : (∀ q, pNb g lo hi p = (q, none) → p ≤ q ∧ q ≤ N) ∧ (∀ q v, pNb g lo hi p = (q, some v) → p < q ∧ q ≤ N ∧ sk g q = q ∧ lo ≤ v ∧ v ≤ hi) := by
  unfold pNb
  split
  · next hd =>
    have hlt := hG.lt (p := p) (by unfold isD at hd; omega)
    have h1 := pDg_G hG 2 p 0 hp (by omega)
    rcases h3 : pDg g 2 p 0 with ⟨q, _ | v⟩
    · have := h1.1 q h3
      exact ⟨fun q' e => by simp only [Prod.mk.injEq, and_true] at e; omega, fun q' c' e => by simp at e⟩
    · obtain ⟨a1, a2, a3, a4, a5, a6⟩ := h1.2 q v h3
      have hpq : p < q := by
        rw [pDg, if_pos hd] at h3
        have := ((pDg_G hG 1 (p + 1) (10 * 0 + g p - 48) (by omega) (by unfold isD at hd; omega)).2 q v h3).1
        omega
      have h5 := sk_ge g q
      have h6 := sk_le hG a2
      simp only
      split
      · next hr =>
        exact ⟨fun q' e => by simp at e, fun q' c' e => by
          simp only [Prod.mk.injEq, Option.some.injEq] at e
          obtain ⟨rfl, rfl⟩ := e
          exact ⟨by omega, h6, sk_sk hG _, hr.1, hr.2⟩⟩
      · exact ⟨fun q' e => by simp only [Prod.mk.injEq, and_true] at e; omega, fun q' c' e => by simp at e⟩
  · exact ⟨fun q' e => by simp only [Prod.mk.injEq, and_true] at e; omega, fun q' c' e => by simp at e⟩
/-- a row in its ranges -/
def rowOk (κ : Int) (r : Nat → Int) : Prop := ∀ k : Nat, k < 4 → loO κ (k : Int) ≤ r k ∧ r k ≤ hiO κ (k : Int)
theorem usR_ok {κ : Int} (h : κ = 115 ∨ κ = 112 ∨ κ = 116) : rowOk κ (usR κ) := by
  intro k hk
  rcases h with rfl | rfl | rfl <;> rcases (show k = 0 ∨ k = 1 ∨ k = 2 ∨ k = 3 by omega) with rfl | rfl | rfl | rfl <;> decide
theorem rowOk.fu {κ : Int} {r : Nat → Int} (h : rowOk κ r) {k : Int} {v : Int} (hk : 0 ≤ k) (h1 : loO κ k ≤ v) (h2 : v ≤ hiO κ k) : rowOk κ (fu r k.toNat v) := by
  intro j hj
  by_cases e : j = k.toNat
  · rw [e, fu_eq, Int.toNat_of_nonneg hk]
    exact ⟨h1, h2⟩
  · rw [fu_ne e]
    exact h j hj
theorem pIt_G {g : Nat → Int} {N : Nat} (hG : Gok g N) (κ : Int) : ∀ (f p : Nat) (r : Nat → Int) (s : Int), p ≤ N → sk g p = p → rowOk κ r → (∀ q, pIt g κ f p r s = (q, none) → p ≤ q ∧ q ≤ N) ∧ (∀ q r', pIt g κ f p r s = (q, some r') → p ≤ q ∧ q ≤ N ∧ sk g q = q ∧ rowOk κ r')
  | 0, p, r, s, hp, hs, hr => ⟨fun q e => by simp [pIt] at e, fun q r' e => by
      simp only [pIt, Prod.mk.injEq, Option.some.injEq] at e
      obtain ⟨rfl, rfl⟩ := e
      exact ⟨Nat.le_refl _, hp, hs, hr⟩⟩
  | f + 1, p, r, s, hp, hs, hr => by
    by_cases h : itO κ (g p) = -1 ∨ hasB s (itO κ (g p)).toNat = true
    · rw [pIt_s h]
      exact ⟨fun q e => by simp at e, fun q r' e => by
        simp only [Prod.mk.injEq, Option.some.injEq] at e
        obtain ⟨rfl, rfl⟩ := e
        exact ⟨Nat.le_refl _, hp, hs, hr⟩⟩
    · have hi := itO_rng κ (g p)
      have hne : itO κ (g p) ≠ -1 := fun e => h (Or.inl e)
      have hlt := hG.lt (itO_e hne)
      have k1 := sk_ge g (p + 1)
      have hn := pNb_G hG (lo := loO κ (itO κ (g p))) (hi := hiO κ (itO κ (g p))) (sk_le hG (p := p + 1) (by omega))
      rcases h3 : pNb g (loO κ (itO κ (g p))) (hiO κ (itO κ (g p))) (sk g (p + 1)) with ⟨q, _ | v⟩
      · rw [pIt_b h h3]
        have := hn.1 q h3
        exact ⟨fun q' e => by simp only [Prod.mk.injEq, and_true] at e; omega, fun q' c' e => by simp at e⟩
      · rw [pIt_g h h3]
        obtain ⟨a1, a2, a3, a4, a5⟩ := hn.2 q v h3
        have ih := pIt_G hG κ f q (fu r (itO κ (g p)).toNat v) (bOr s (bShl 1 (itO κ (g p)))) a2 a3 (hr.fu (by omega) a4 a5)
        exact ⟨fun q' e => by have := ih.1 q' e; omega, fun q' r' e => by
          obtain ⟨b1, b2, b3, b4⟩ := ih.2 q' r' e
          exact ⟨by omega, b2, b3, b4⟩⟩
/-- a town that is read: whether its rule was told, the rule, the persons, the troubles -/
abbrev Tw : Type := (Bool × (Nat → Int)) × ((Nat × (Nat → Nat → Int)) × (Nat × (Nat → Nat → Int)))
def fuR (f : Nat → Nat → Int) (i : Nat) (r : Nat → Int) : Nat → Nat → Int := fun j => if j = i then r else f j
theorem fuR_eq {f : Nat → Nat → Int} {i : Nat} {r : Nat → Int} : fuR f i r i = r := if_pos rfl
theorem fuR_ne {f : Nat → Nat → Int} {i j : Nat} {r : Nat → Int} (h : j ≠ i) : fuR f i r j = f j := if_neg h
def pTc (g : Nat → Int) (p : Nat) (s : Tw) : Nat × Option Tw :=
  if g p = 115 ∧ s.1.1 = false then (match pIt g 115 4 (sk g (p + 1)) (usR 115) 0 with
    | (q, none) => (q, none)
    | (q, some r) => (q, some ((true, r), s.2)))
  else if g p = 112 ∧ s.2.1.1 < 6 then (match pIt g 112 4 (sk g (p + 1)) (usR 112) 0 with
    | (q, none) => (q, none)
    | (q, some r) => (q, some (s.1, (s.2.1.1 + 1, fuR s.2.1.2 s.2.1.1 r), s.2.2)))
  else if g p = 116 ∧ s.2.2.1 < 5 then (match pIt g 116 4 (sk g (p + 1)) (usR 116) 0 with
    | (q, none) => (q, none)
    | (q, some r) => (q, some (s.1, s.2.1, (s.2.2.1 + 1, fuR s.2.2.2 s.2.2.1 r))))
  else (p, none)
def aftT (g : Nat → Int) (more : Nat → Nat × Option Tw) (q : Nat) (s : Tw) : Nat × Option Tw := if g q = 59 then more (sk g (q + 1)) else if g q = -1 ∧ 2 ≤ s.2.1.1 then (q, some s) else (q, none)
def pTs (g : Nat → Int) : Nat → Nat → Tw → Nat × Option Tw
  | 0, p, _ => (p, none)
  | f + 1, p, s => match pTc g p s with
    | (q, none) => (q, none)
    | (q, some s2) => aftT g (fun p' => pTs g f p' s2) q s2
theorem pTs_b {g : Nat → Int} {f p q : Nat} {s : Tw} (h : pTc g p s = (q, none)) : pTs g (f + 1) p s = (q, none) := by rw [pTs]; simp only [h]
theorem pTs_g {g : Nat → Int} {f p q : Nat} {s s2 : Tw} (h : pTc g p s = (q, some s2)) : pTs g (f + 1) p s = aftT g (fun p' => pTs g f p' s2) q s2 := by rw [pTs]; simp only [h]
def tw0 : Tw := ((false, usR 115), (0, fun _ _ => 0), (0, fun _ _ => 0))
/-- the tape as a town -/
def pTown (g : Nat → Int) : Nat × Option Tw := pTs g 241 (sk g 0) tw0
def TwOk (s : Tw) : Prop := rowOk 115 s.1.2 ∧ (s.2.1.1 ≤ 6 ∧ ∀ i, i < s.2.1.1 → rowOk 112 (s.2.1.2 i)) ∧ (s.2.2.1 ≤ 5 ∧ ∀ i, i < s.2.2.1 → rowOk 116 (s.2.2.2 i))
theorem tw0_ok : TwOk tw0 := ⟨usR_ok (Or.inl rfl), ⟨Nat.zero_le _, fun i hi => absurd hi (Nat.not_lt_zero _)⟩, ⟨Nat.zero_le _, fun i hi => absurd hi (Nat.not_lt_zero _)⟩⟩
section
variable {g : Nat → Int} {p q : Nat} {s : Tw} {r : Nat → Int}
theorem pTc_sb (h : g p = 115) (h2 : s.1.1 = false) (e : pIt g 115 4 (sk g (p + 1)) (usR 115) 0 = (q, none)) : pTc g p s = (q, none) := by unfold pTc; rw [if_pos ⟨h, h2⟩]; simp only [e]
theorem pTc_sg (h : g p = 115) (h2 : s.1.1 = false) (e : pIt g 115 4 (sk g (p + 1)) (usR 115) 0 = (q, some r)) : pTc g p s = (q, some ((true, r), s.2)) := by unfold pTc; rw [if_pos ⟨h, h2⟩]; simp only [e]
theorem pTc_pb (h : g p = 112) (h2 : s.2.1.1 < 6) (e : pIt g 112 4 (sk g (p + 1)) (usR 112) 0 = (q, none)) : pTc g p s = (q, none) := by unfold pTc; rw [if_neg (by omega), if_pos ⟨h, h2⟩]; simp only [e]
theorem pTc_pg (h : g p = 112) (h2 : s.2.1.1 < 6) (e : pIt g 112 4 (sk g (p + 1)) (usR 112) 0 = (q, some r)) : pTc g p s = (q, some (s.1, (s.2.1.1 + 1, fuR s.2.1.2 s.2.1.1 r), s.2.2)) := by unfold pTc; rw [if_neg (by omega), if_pos ⟨h, h2⟩]; simp only [e]
theorem pTc_tb (h : g p = 116) (h2 : s.2.2.1 < 5) (e : pIt g 116 4 (sk g (p + 1)) (usR 116) 0 = (q, none)) : pTc g p s = (q, none) := by unfold pTc; rw [if_neg (by omega), if_neg (by omega), if_pos ⟨h, h2⟩]; simp only [e]
theorem pTc_tg (h : g p = 116) (h2 : s.2.2.1 < 5) (e : pIt g 116 4 (sk g (p + 1)) (usR 116) 0 = (q, some r)) : pTc g p s = (q, some (s.1, s.2.1, (s.2.2.1 + 1, fuR s.2.2.2 s.2.2.1 r))) := by unfold pTc; rw [if_neg (by omega), if_neg (by omega), if_pos ⟨h, h2⟩]; simp only [e]
theorem pTc_n (h1 : ¬ (g p = 115 ∧ s.1.1 = false)) (h2 : ¬ (g p = 112 ∧ s.2.1.1 < 6)) (h3 : ¬ (g p = 116 ∧ s.2.2.1 < 5)) : pTc g p s = (p, none) := by unfold pTc; rw [if_neg h1, if_neg h2, if_neg h3]
end
theorem pTc_G {g : Nat → Int} {N p : Nat} (hG : Gok g N) {s : Tw} (hp : p ≤ N) (hs : TwOk s) : (∀ q, pTc g p s = (q, none) → p ≤ q ∧ q ≤ N) ∧ (∀ q s', pTc g p s = (q, some s') → p < q ∧ q ≤ N ∧ sk g q = q ∧ TwOk s') := by
  have key : ∀ κ : Int, (κ = 115 ∨ κ = 112 ∨ κ = 116) → g p = κ → (∀ q, pIt g κ 4 (sk g (p + 1)) (usR κ) 0 = (q, none) → p < q ∧ q ≤ N) ∧ (∀ q r', pIt g κ 4 (sk g (p + 1)) (usR κ) 0 = (q, some r') → p < q ∧ q ≤ N ∧ sk g q = q ∧ rowOk κ r') := by
    intro κ hκ hg
    have hlt := hG.lt (p := p) (by omega)
    have k1 := sk_ge g (p + 1)
    have := pIt_G hG κ 4 (sk g (p + 1)) (usR κ) 0 (sk_le hG (by omega)) (sk_sk hG _) (usR_ok hκ)
    exact ⟨fun q e => by have := this.1 q e; omega, fun q r' e => by
      obtain ⟨a1, a2, a3, a4⟩ := this.2 q r' e
      exact ⟨by omega, a2, a3, a4⟩⟩
  by_cases h1 : g p = 115 ∧ s.1.1 = false
  · obtain ⟨kb, kg⟩ := key 115 (by omega) h1.1
    rcases h3 : pIt g 115 4 (sk g (p + 1)) (usR 115) 0 with ⟨q, _ | r⟩
    · rw [pTc_sb h1.1 h1.2 h3]
      have := kb q h3
      exact ⟨fun q' e => by simp only [Prod.mk.injEq, and_true] at e; omega, fun q' c' e => by simp at e⟩
    · rw [pTc_sg h1.1 h1.2 h3]
      obtain ⟨a1, a2, a3, a4⟩ := kg q r h3
      exact ⟨fun q' e => by simp at e, fun q' c' e => by
        simp only [Prod.mk.injEq, Option.some.injEq] at e
        obtain ⟨rfl, rfl⟩ := e
        exact ⟨a1, a2, a3, a4, hs.2⟩⟩
  · by_cases h2 : g p = 112 ∧ s.2.1.1 < 6
    · obtain ⟨kb, kg⟩ := key 112 (by omega) h2.1
      rcases h3 : pIt g 112 4 (sk g (p + 1)) (usR 112) 0 with ⟨q, _ | r⟩
      · rw [pTc_pb h2.1 h2.2 h3]
        have := kb q h3
        exact ⟨fun q' e => by simp only [Prod.mk.injEq, and_true] at e; omega, fun q' c' e => by simp at e⟩
      · rw [pTc_pg h2.1 h2.2 h3]
        obtain ⟨a1, a2, a3, a4⟩ := kg q r h3
        exact ⟨fun q' e => by simp at e, fun q' c' e => by
          simp only [Prod.mk.injEq, Option.some.injEq] at e
          obtain ⟨rfl, rfl⟩ := e
          refine ⟨a1, a2, a3, hs.1, ⟨by dsimp only; omega, fun i hi => ?_⟩, hs.2.2⟩
          dsimp only at hi ⊢
          by_cases e : i = s.2.1.1
          · rw [e, fuR_eq]; exact a4
          · rw [fuR_ne e]; exact hs.2.1.2 i (by omega)⟩
    · by_cases h3 : g p = 116 ∧ s.2.2.1 < 5
      · obtain ⟨kb, kg⟩ := key 116 (by omega) h3.1
        rcases h4 : pIt g 116 4 (sk g (p + 1)) (usR 116) 0 with ⟨q, _ | r⟩
        · rw [pTc_tb h3.1 h3.2 h4]
          have := kb q h4
          exact ⟨fun q' e => by simp only [Prod.mk.injEq, and_true] at e; omega, fun q' c' e => by simp at e⟩
        · rw [pTc_tg h3.1 h3.2 h4]
          obtain ⟨a1, a2, a3, a4⟩ := kg q r h4
          exact ⟨fun q' e => by simp at e, fun q' c' e => by
            simp only [Prod.mk.injEq, Option.some.injEq] at e
            obtain ⟨rfl, rfl⟩ := e
            refine ⟨a1, a2, a3, hs.1, hs.2.1, ⟨by dsimp only; omega, fun i hi => ?_⟩⟩
            dsimp only at hi ⊢
            by_cases e : i = s.2.2.1
            · rw [e, fuR_eq]; exact a4
            · rw [fuR_ne e]; exact hs.2.2.2 i (by omega)⟩
      · rw [pTc_n h1 h2 h3]
        exact ⟨fun q' e => by simp only [Prod.mk.injEq, and_true] at e; omega, fun q' c' e => by simp at e⟩
theorem pTs_G {g : Nat → Int} {N : Nat} (hG : Gok g N) : ∀ (f p : Nat) (s : Tw), p ≤ N → N < p + f → TwOk s → (∀ q, pTs g f p s = (q, none) → q ≤ N) ∧ (∀ q s', pTs g f p s = (q, some s') → q ≤ N ∧ TwOk s' ∧ 2 ≤ s'.2.1.1)
  | 0, p, s, hp, hf, _ => by omega
  | f + 1, p, s, hp, hf, hs => by
    have hc := pTc_G hG hp hs
    rcases h : pTc g p s with ⟨q, _ | s2⟩
    · rw [pTs_b h]
      have := hc.1 q h
      exact ⟨fun q' e => by simp only [Prod.mk.injEq, and_true] at e; omega, fun q' c' e => by simp at e⟩
    · obtain ⟨a1, a2, a3, a4⟩ := hc.2 q s2 h
      rw [pTs_g h, aftT]
      split
      · next e59 =>
        have hlt := hG.lt (p := q) (by omega)
        have k1 := sk_ge g (q + 1)
        exact pTs_G hG f (sk g (q + 1)) s2 (sk_le hG (by omega)) (by omega) a4
      · split
        · next e2 =>
          exact ⟨fun q' e => by simp at e, fun q' l' e => by
            simp only [Prod.mk.injEq, Option.some.injEq] at e
            obtain ⟨rfl, rfl⟩ := e
            exact ⟨a2, a4, e2.2⟩⟩
        · exact ⟨fun q' e => by simp only [Prod.mk.injEq, and_true] at e; omega, fun q' l' e => by simp at e⟩
