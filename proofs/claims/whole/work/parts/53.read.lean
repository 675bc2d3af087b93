
/-! ## reading: what a tape says, as a law -/
/-- the signs from each place on; -1: the end -/
def Gok (g : Nat → Int) (N : Nat) : Prop := N ≤ 240 ∧ (∀ p, p < N → 1 ≤ g p ∧ g p ≤ 255) ∧ (∀ p, N ≤ p → g p = -1)
theorem Gok.rng {g : Nat → Int} {N : Nat} (h : Gok g N) (p : Nat) : -1 ≤ g p ∧ g p ≤ 255 := by
  by_cases e : p < N
  · have := h.2.1 p e; omega
  · have := h.2.2 p (by omega); omega
theorem Gok.lt {g : Nat → Int} {N : Nat} (h : Gok g N) {p : Nat} (hp : g p ≠ -1) : p < N := by
  by_cases e : p < N
  · exact e
  · exact absurd (h.2.2 p (by omega)) hp
theorem Gok.end {g : Nat → Int} {N : Nat} (h : Gok g N) {p : Nat} (hp : g p = -1) : N ≤ p := by
  by_cases e : p < N
  · have := h.2.1 p e; omega
  · omega
def skF (g : Nat → Int) : Nat → Nat → Nat
  | 0, p => p
  | f + 1, p => if g p = 32 then skF g f (p + 1) else p
/-- the first place from p on that has no blank -/
def sk (g : Nat → Int) (p : Nat) : Nat := skF g 241 p
theorem skF_ge (g : Nat → Int) : ∀ f p, p ≤ skF g f p
  | 0, _ => Nat.le_refl _
  | f + 1, p => by
    rw [skF]
    split
    · have := skF_ge g f (p + 1); omega
    · exact Nat.le_refl _
theorem skF_le {g : Nat → Int} {N : Nat} (h : Gok g N) : ∀ f p, p ≤ N → skF g f p ≤ N
  | 0, _, hp => hp
  | f + 1, p, hp => by
    rw [skF]
    split
    · next e => exact skF_le h f (p + 1) (by have := h.lt (p := p) (by omega); omega)
    · exact hp
theorem skF_fu {g : Nat → Int} {N : Nat} (h : Gok g N) : ∀ f f' p, N ≤ p + f → N ≤ p + f' → skF g f p = skF g f' p
  | 0, 0, _, _, _ => rfl
  | 0, f' + 1, p, h1, _ => by rw [skF, skF, if_neg (by have := h.2.2 p (by omega); omega)]
  | f + 1, 0, p, _, h2 => by rw [skF, skF, if_neg (by have := h.2.2 p (by omega); omega)]
  | f + 1, f' + 1, p, h1, h2 => by rw [skF, skF, skF_fu h f f' (p + 1) (by omega) (by omega)]
theorem sk_ge (g : Nat → Int) (p : Nat) : p ≤ sk g p := skF_ge g _ p
theorem sk_le {g : Nat → Int} {N : Nat} (h : Gok g N) {p : Nat} (hp : p ≤ N) : sk g p ≤ N := skF_le h _ p hp
theorem sk_st {g : Nat → Int} {N : Nat} (h : Gok g N) (p : Nat) : sk g p = if g p = 32 then sk g (p + 1) else p := by
  unfold sk
  rw [show skF g 241 p = (if g p = 32 then skF g 240 (p + 1) else p) from rfl, skF_fu h 240 241 (p + 1) (by have := h.1; omega) (by have := h.1; omega)]
theorem sk_t {g : Nat → Int} {N : Nat} (h : Gok g N) {p : Nat} (e : g p = 32) : sk g p = sk g (p + 1) := by rw [sk_st h, if_pos e]
theorem sk_f {g : Nat → Int} {N : Nat} (h : Gok g N) {p : Nat} (e : g p ≠ 32) : sk g p = p := by rw [sk_st h, if_neg e]
theorem skF_nb {g : Nat → Int} {N : Nat} (h : Gok g N) : ∀ f p, N ≤ p + f → g (skF g f p) ≠ 32
  | 0, p, hp => by rw [skF]; have := h.2.2 p (by omega); omega
  | f + 1, p, hp => by
    rw [skF]
    split
    · exact skF_nb h f (p + 1) (by omega)
    · next e => exact e
theorem sk_nb {g : Nat → Int} {N : Nat} (h : Gok g N) (p : Nat) : g (sk g p) ≠ 32 := skF_nb h _ p (by have := h.1; omega)
theorem sk_sk {g : Nat → Int} {N : Nat} (h : Gok g N) (p : Nat) : sk g (sk g p) = sk g p := sk_f h (sk_nb h p)
/-- what reading comes to: the place behind it and its tokens; none: wrong at that place -/
abbrev PR : Type := Nat × Option (List Tok)
def rest (g : Nat → Int) (item : Nat → PR) (sep : Int → Option Int) : Nat → Nat → List Tok → PR
  | 0, p, _ => (p, none)
  | f + 1, p, c => match sep (g p) with
    | none => (p, some c)
    | some op => match item (sk g (p + 1)) with
      | (q, none) => (q, none)
      | (q, some c2) => rest g item sep f q (c ++ (c2 ++ [(op, 0)]))
def chn (g : Nat → Int) (item : Nat → PR) (sep : Int → Option Int) (p : Nat) : PR := match item p with
  | (q, none) => (q, none)
  | (q, some c) => rest g item sep 241 q c
theorem rest_n {g : Nat → Int} {item : Nat → PR} {sep : Int → Option Int} {f p : Nat} {c : List Tok} (h : sep (g p) = none) : rest g item sep (f + 1) p c = (p, some c) := by rw [rest]; simp only [h]
theorem rest_b {g : Nat → Int} {item : Nat → PR} {sep : Int → Option Int} {f p q : Nat} {c : List Tok} {op : Int} (h : sep (g p) = some op) (hi : item (sk g (p + 1)) = (q, none)) : rest g item sep (f + 1) p c = (q, none) := by rw [rest]; simp only [h, hi]
theorem rest_g {g : Nat → Int} {item : Nat → PR} {sep : Int → Option Int} {f p q : Nat} {c c2 : List Tok} {op : Int} (h : sep (g p) = some op) (hi : item (sk g (p + 1)) = (q, some c2)) : rest g item sep (f + 1) p c = rest g item sep f q (c ++ (c2 ++ [(op, 0)])) := by rw [rest]; simp only [h, hi]
theorem chn_b {g : Nat → Int} {item : Nat → PR} {sep : Int → Option Int} {p q : Nat} (hi : item p = (q, none)) : chn g item sep p = (q, none) := by rw [chn]; simp only [hi]
theorem chn_g {g : Nat → Int} {item : Nat → PR} {sep : Int → Option Int} {p q : Nat} {c : List Tok} (hi : item p = (q, some c)) : chn g item sep p = rest g item sep 241 q c := by rw [chn]; simp only [hi]
abbrev isD (c : Int) : Prop := 48 ≤ c ∧ c ≤ 57
/-- at most k digits from p on: the place behind them and the number; none: one too many, at that place -/
def pDg (g : Nat → Int) : Nat → Nat → Int → Nat × Option Int
  | 0, p, v => if isD (g p) then (p, none) else (p, some v)
  | k + 1, p, v => if isD (g p) then pDg g k (p + 1) (10 * v + g p - 48) else (p, some v)
def letV (c : Int) : Int := if c = 99 then 0 else if c = 107 then 1 else if c = 118 then 2 else if c = 109 then 3 else if c = 104 then 4 else if c = 121 then 5 else -1
def sepM (c : Int) : Option Int := if c = 42 then some 4 else if c = 47 then some 5 else none
def sepA (c : Int) : Option Int := if c = 43 then some 2 else if c = 45 then some 3 else none
def sepR (c : Int) : Option Int := if c = 61 then some 6 else if c = 60 then some 7 else if c = 62 then some 8 else none
def sepN (c : Int) : Option Int := if c = 38 then some 10 else none
def sepO (c : Int) : Option Int := if c = 124 then some 11 else none
/-- one that is shut by sign s -/
def shut (g : Nat → Int) (s : Int) (x : PR) : PR := match x with
  | (q, none) => (q, none)
  | (q, some c) => if g q = s then (sk g (q + 1), some c) else (q, none)
theorem shut_b {g : Nat → Int} {s : Int} {q : Nat} : shut g s (q, none) = (q, none) := rfl
theorem shut_g {g : Nat → Int} {s : Int} {q : Nat} {c : List Tok} (h : g q = s) : shut g s (q, some c) = (sk g (q + 1), some c) := by rw [shut]; exact if_pos h
theorem shut_n {g : Nat → Int} {s : Int} {q : Nat} {c : List Tok} (h : ¬ g q = s) : shut g s (q, some c) = (q, none) := by rw [shut]; exact if_neg h
def pAt (g : Nat → Int) (r : Nat) (S : Nat → PR) (p : Nat) : PR :=
  if isD (g p) then (match pDg g 4 p 0 with
    | (q, none) => (q, none)
    | (q, some v) => (sk g q, some [(0, v)]))
  else if letV (g p) ≠ -1 then (sk g (p + 1), some [(1, letV (g p))])
  else if g p = 91 then (if r = 0 then (p, none) else shut g 93 (S (sk g (p + 1))))
  else (p, none)
def sumOf (g : Nat → Int) (A : Nat → PR) : Nat → PR := chn g (chn g A sepM) sepA
def pAtom (g : Nat → Int) : Nat → Nat → PR
  | 0 => pAt g 0 (fun q => (q, none))
  | r + 1 => pAt g (r + 1) (sumOf g (pAtom g r))
def pTerm (g : Nat → Int) (r : Nat) : Nat → PR := chn g (pAtom g r) sepM
def pSum (g : Nat → Int) (r : Nat) : Nat → PR := chn g (pTerm g r) sepA
def pCmp (g : Nat → Int) (r : Nat) (q : Nat) (c : List Tok) : PR := match sepR (g q) with
  | none => (q, none)
  | some op => match pSum g r (sk g (q + 1)) with
    | (q2, none) => (q2, none)
    | (q2, some c2) => (q2, some (c ++ (c2 ++ [(op, 0)])))
theorem pCmp_n {g : Nat → Int} {r q : Nat} {c : List Tok} (h : sepR (g q) = none) : pCmp g r q c = (q, none) := by rw [pCmp]; simp only [h]
theorem pCmp_b {g : Nat → Int} {r q q2 : Nat} {c : List Tok} {op : Int} (h : sepR (g q) = some op) (hi : pSum g r (sk g (q + 1)) = (q2, none)) : pCmp g r q c = (q2, none) := by rw [pCmp]; simp only [h, hi]
theorem pCmp_g {g : Nat → Int} {r q q2 : Nat} {c c2 : List Tok} {op : Int} (h : sepR (g q) = some op) (hi : pSum g r (sk g (q + 1)) = (q2, some c2)) : pCmp g r q c = (q2, some (c ++ (c2 ++ [(op, 0)]))) := by rw [pCmp]; simp only [h, hi]
def condOf (g : Nat → Int) (U : Nat → PR) : Nat → PR := chn g (chn g U sepN) sepO
def neg1 (x : PR) : PR := match x with
  | (q, none) => (q, none)
  | (q, some c) => (q, some (c ++ [(9, 0)]))
def cmpOf (g : Nat → Int) (r : Nat) (x : PR) : PR := match x with
  | (q, none) => (q, none)
  | (q, some c) => pCmp g r q c
def pUn (g : Nat → Int) (r : Nat) (U : Nat → PR) (p : Nat) : PR :=
  if g p = 33 then (if r = 0 then (p, none) else neg1 (U (sk g (p + 1))))
  else if g p = 40 then (if r = 0 then (p, none) else shut g 41 (condOf g U (sk g (p + 1))))
  else cmpOf g r (pSum g r p)
def pUnit (g : Nat → Int) : Nat → Nat → PR
  | 0 => pUn g 0 (fun q => (q, none))
  | r + 1 => pUn g (r + 1) (pUnit g r)
def pCond (g : Nat → Int) (r : Nat) : Nat → PR := chn g (chn g (pUnit g r) sepN) sepO
/-- a condition whose first unit is read already -/
def condFrom (g : Nat → Int) (r : Nat) (x : PR) : PR := match x with
  | (q, none) => (q, none)
  | (q, some c) => (match rest g (pUnit g r) sepN 241 q c with
    | (q2, none) => (q2, none)
    | (q2, some c2) => rest g (chn g (pUnit g r) sepN) sepO 241 q2 c2)
theorem pCond_eq (g : Nat → Int) (r p : Nat) : pCond g r p = condFrom g r (pUnit g r p) := by
  rw [pCond]
  rcases h : pUnit g r p with ⟨q, _ | c⟩
  · rw [chn_b (chn_b h)]; rfl
  · rcases h2 : rest g (pUnit g r) sepN 241 q c with ⟨q2, _ | c2⟩
    · rw [chn_b ((chn_g h).trans h2)]; simp only [condFrom, h2]
    · rw [chn_g ((chn_g h).trans h2)]; simp only [condFrom, h2]
/-- a clause: its condition's tokens, none: it has none; its sum's -/
abbrev Cl : Type := Option (List Tok) × List Tok
abbrev PC1 : Type := Nat × Option Cl
def clB (g : Nat → Int) (x : PR) : PC1 := match x with
  | (q, none) => (q, none)
  | (q, some c) => if g q = 63 then (match pSum g 6 (sk g (q + 1)) with
      | (q2, none) => (q2, none)
      | (q2, some c2) => (q2, some (some c, c2))) else (q, none)
def pCl (g : Nat → Int) (p : Nat) : PC1 :=
  if g p ≠ 121 then (p, none)
  else if g (sk g (p + 1)) ≠ 58 then (sk g (p + 1), none)
  else if g (sk g (sk g (p + 1) + 1)) = 33 ∨ g (sk g (sk g (p + 1) + 1)) = 40 then clB g (pCond g 6 (sk g (sk g (p + 1) + 1)))
  else (match pSum g 6 (sk g (sk g (p + 1) + 1)) with
    | (q, none) => (q, none)
    | (q, some c) => if sepR (g q) = none then (q, some (none, c)) else clB g (condFrom g 6 (pCmp g 6 q c)))
def pLs (g : Nat → Int) : Nat → Nat → List Cl → Nat × Option (List Cl)
  | 0, p, _ => (p, none)
  | f + 1, p, l => match pCl g p with
    | (q, none) => (q, none)
    | (q, some c) => if g q = 59 then pLs g f (sk g (q + 1)) (l ++ [c]) else if g q = -1 then (q, some (l ++ [c])) else (q, none)
/-- the tape as a law -/
def pLaw (g : Nat → Int) : Nat × Option (List Cl) := pLs g 241 (sk g 0) []
/-! ### what reading gives: it goes on, no more tokens than signs, all of a form -/
def PGd (g : Nat → Int) (N : Nat) (W : List Tok → Prop) (R : Nat → PR) : Prop := ∀ p, p ≤ N → (∀ q, R p = (q, none) → p ≤ q ∧ q ≤ N) ∧ (∀ q c, R p = (q, some c) → p < q ∧ q ≤ N ∧ sk g q = q ∧ p + c.length ≤ q ∧ W c)
theorem rest_G {g : Nat → Int} {N : Nat} (hG : Gok g N) {W1 W : List Tok → Prop} {item : Nat → PR} (hI : PGd g N W1 item) {sep : Int → Option Int} (hs : sep (-1) = none) (hW : ∀ c c2 x op, W c → W1 c2 → sep x = some op → W (c ++ (c2 ++ [(op, 0)]))) : ∀ f p c, p ≤ N → N < p + f → sk g p = p → W c → (∀ q, rest g item sep f p c = (q, none) → p ≤ q ∧ q ≤ N) ∧ (∀ q c', rest g item sep f p c = (q, some c') → p ≤ q ∧ q ≤ N ∧ sk g q = q ∧ p + c'.length ≤ q + c.length ∧ W c')
  | 0, p, c, hp, hf, _, _ => by omega
  | f + 1, p, c, hp, hf, hsk, hc => by
    cases h : sep (g p) with
    | none =>
      rw [rest_n h]
      exact ⟨fun q e => by simp at e, fun q c' e => by
        simp only [Prod.mk.injEq, Option.some.injEq] at e
        obtain ⟨rfl, rfl⟩ := e
        exact ⟨Nat.le_refl _, hp, hsk, by omega, hc⟩⟩
    | some op =>
      have hlt : p < N := hG.lt (fun e => by rw [e, hs] at h; cases h)
      have h1 := sk_ge g (p + 1)
      have h2 := sk_le hG (p := p + 1) (by omega)
      have hi := hI (sk g (p + 1)) h2
      rcases h3 : item (sk g (p + 1)) with ⟨q, _ | c2⟩
      · rw [rest_b h h3]
        have := hi.1 q h3
        exact ⟨fun q' e => by simp only [Prod.mk.injEq, and_true] at e; omega, fun q' c' e => by simp at e⟩
      · rw [rest_g h h3]
        obtain ⟨a1, a2, a3, a4, a5⟩ := hi.2 q c2 h3
        have ih := rest_G hG hI hs hW f q (c ++ (c2 ++ [(op, 0)])) a2 (by omega) a3 (hW c c2 (g p) op hc a5 h)
        exact ⟨fun q' e => by have := ih.1 q' e; omega, fun q' c' e => by
          obtain ⟨b1, b2, b3, b4, b5⟩ := ih.2 q' c' e
          simp only [List.length_append, List.length_cons, List.length_nil] at b4
          exact ⟨by omega, b2, b3, by omega, b5⟩⟩
theorem chn_G {g : Nat → Int} {N : Nat} (hG : Gok g N) {W1 W : List Tok → Prop} {item : Nat → PR} (hI : PGd g N W1 item) {sep : Int → Option Int} (hs : sep (-1) = none) (hW1 : ∀ c, W1 c → W c) (hW : ∀ c c2 x op, W c → W1 c2 → sep x = some op → W (c ++ (c2 ++ [(op, 0)]))) : PGd g N W (chn g item sep) := by
  intro p hp
  have hi := hI p hp
  have hN := hG.1
  rcases h3 : item p with ⟨q, _ | c⟩
  · rw [chn_b h3]
    exact ⟨fun q' e => by simp only [Prod.mk.injEq, and_true] at e; have := hi.1 q h3; omega, fun q' c' e => by simp at e⟩
  · rw [chn_g h3]
    obtain ⟨a1, a2, a3, a4, a5⟩ := hi.2 q c h3
    have ih := rest_G hG hI hs hW 241 q c a2 (by omega) a3 (hW1 c a5)
    exact ⟨fun q' e => by have := ih.1 q' e; omega, fun q' c' e => by
      obtain ⟨b1, b2, b3, b4, b5⟩ := ih.2 q' c' e
      exact ⟨by omega, b2, b3, by omega, b5⟩⟩
theorem pDg_G {g : Nat → Int} {N : Nat} (hG : Gok g N) : ∀ k p v, p ≤ N → 0 ≤ v → (∀ q, pDg g k p v = (q, none) → p ≤ q ∧ q < N) ∧ (∀ q w, pDg g k p v = (q, some w) → p ≤ q ∧ q ≤ N ∧ q ≤ p + k ∧ 0 ≤ w ∧ w < (v + 1) * 10 ^ k ∧ (q = p ∨ isD (g p)))
  | 0, p, v, hp, hv => by
    rw [pDg]
    split
    · next h => exact ⟨fun q e => by simp only [Prod.mk.injEq, and_true] at e; have := hG.lt (p := p) (by unfold isD at h; omega); omega, fun q w e => by simp at e⟩
    · exact ⟨fun q e => by simp at e, fun q w e => by
        simp only [Prod.mk.injEq, Option.some.injEq] at e
        obtain ⟨rfl, rfl⟩ := e
        exact ⟨Nat.le_refl _, hp, by omega, hv, by omega, Or.inl rfl⟩⟩
  | k + 1, p, v, hp, hv => by
    rw [pDg]
    split
    · next h =>
      have hlt := hG.lt (p := p) (by unfold isD at h; omega)
      unfold isD at h
      have ih := pDg_G hG k (p + 1) (10 * v + g p - 48) (by omega) (by omega)
      refine ⟨fun q e => by have := ih.1 q e; omega, fun q w e => ?_⟩
      obtain ⟨a1, a2, a3, a4, a5, a6⟩ := ih.2 q w e
      have hp10 : (0 : Int) < 10 ^ k := Int.pow_pos (by decide)
      refine ⟨by omega, a2, by omega, a4, Int.lt_of_lt_of_le a5 ?_, Or.inr h⟩
      rw [Int.pow_succ, Int.mul_comm (10 ^ k) 10, ← Int.mul_assoc]
      exact Int.mul_le_mul_of_nonneg_right (by omega) (by omega)
    · exact ⟨fun q e => by simp at e, fun q w e => by
        simp only [Prod.mk.injEq, Option.some.injEq] at e
        obtain ⟨rfl, rfl⟩ := e
        have hp10 : (1 : Int) ≤ 10 ^ (k + 1) := Int.pow_pos (by decide)
        refine ⟨Nat.le_refl _, hp, by omega, hv, ?_, Or.inl rfl⟩
        have := Int.mul_le_mul_of_nonneg_left hp10 (show 0 ≤ v + 1 by omega)
        omega⟩
/-! ### tokens that can be reckoned -/
def okL : List Tok → Nat → Nat → Prop
  | [], n, m => n = m
  | t :: ts, n, m => tokOk t ∧ ((t.1 = 0 ∨ t.1 = 1) → n < 31) ∧ (t.1 = 9 → 1 ≤ n) ∧ ((2 ≤ t.1 ∧ t.1 ≠ 9) → 2 ≤ n) ∧ okL ts (if t.1 = 0 ∨ t.1 = 1 then n + 1 else if t.1 = 9 then n else n - 1) m
theorem okL_app : ∀ {c c2 : List Tok} {n m k : Nat}, okL c n m → okL c2 m k → okL (c ++ c2) n k
  | [], _, _, _, _, h, h2 => by rw [okL] at h; subst h; exact h2
  | t :: c, c2, n, m, k, h, h2 => by
    rw [okL] at h
    rw [List.cons_append, okL]
    exact ⟨h.1, h.2.1, h.2.2.1, h.2.2.2.1, okL_app h.2.2.2.2 h2⟩
def Hgt (h : Nat) (c : List Tok) : Prop := ∀ n, n + h ≤ 31 → okL c n (n + 1)
theorem Hgt.mono {h h' : Nat} {c : List Tok} (H : Hgt h c) (e : h ≤ h') : Hgt h' c := fun n hn => H n (by omega)
theorem okL_op {op : Int} {n : Nat} (h1 : 2 ≤ op) (h2 : op ≤ 11) (h3 : op ≠ 9) : okL [(op, 0)] (n + 2) (n + 1) := by
  rw [okL]
  refine ⟨Or.inr (Or.inr ⟨h1, h2⟩), fun e => by rcases e with e | e <;> (dsimp only at e; omega), fun e => absurd e h3, fun _ => by omega, ?_⟩
  rw [if_neg (by dsimp only; omega), if_neg h3]
  exact rfl
theorem Hgt.bin {h : Nat} {c c2 : List Tok} {op : Int} (H : Hgt (h + 1) c) (H2 : Hgt h c2) (h1 : 2 ≤ op) (h2 : op ≤ 11) (h3 : op ≠ 9) : Hgt (h + 1) (c ++ (c2 ++ [(op, 0)])) := fun n hn =>
  okL_app (H n hn) (okL_app (H2 (n + 1) (by omega)) (okL_op h1 h2 h3))
theorem Hgt.neg {h : Nat} {c : List Tok} (H : Hgt h c) : Hgt h (c ++ [(9, 0)]) := fun n hn => okL_app (H n hn) (by
  rw [okL]
  exact ⟨Or.inr (Or.inr ⟨by decide, by decide⟩), fun e => absurd e (by decide), fun _ => by omega, fun e => absurd rfl e.2, rfl⟩)
def wkC (c a b : Int) : Int := if c = 10 then clampI 1000000 (lAnd a b) else if c = 11 then clampI 1000000 (lOr a b) else wkd c a b
def ev1C (lt : Nat → Int) (s : List Int) (t : Tok) : List Int :=
  if t.1 = 0 then t.2 :: s else if t.1 = 1 then lt t.2.toNat :: s else if t.1 = 9 then (match s with
    | a :: r => (1 - a) :: r
    | [] => [])
  else (match s with
    | b :: a :: r => wkC t.1 a b :: r
    | _ => [])
def evsC (lt : Nat → Int) (ts : List Tok) (s : List Int) : List Int := ts.foldl (ev1C lt) s
def Num (c : List Tok) : Prop := ∀ lt s, ∃ v, evs lt c s = v :: s ∧ evsC lt c s = v :: s
def Bln (c : List Tok) : Prop := ∀ lt s, ∃ v, (v = 0 ∨ v = 1) ∧ evs lt c s = v :: s ∧ evsC lt c s = v :: s
theorem evs_app (lt : Nat → Int) (c c2 : List Tok) (s : List Int) : evs lt (c ++ c2) s = evs lt c2 (evs lt c s) := List.foldl_append
theorem evsC_app (lt : Nat → Int) (c c2 : List Tok) (s : List Int) : evsC lt (c ++ c2) s = evsC lt c2 (evsC lt c s) := List.foldl_append
theorem ev_op {op a b : Int} (lt : Nat → Int) (s : List Int) (h1 : 2 ≤ op) (h3 : op ≠ 9) : evs lt [(op, 0)] (b :: a :: s) = wkd op a b :: s ∧ evsC lt [(op, 0)] (b :: a :: s) = wkC op a b :: s := by
  refine ⟨?_, ?_⟩
  · show ev1 lt (b :: a :: s) (op, 0) = _
    unfold ev1
    rw [if_neg (by dsimp only; omega), if_neg (by dsimp only; omega), if_neg h3]
  · show ev1C lt (b :: a :: s) (op, 0) = _
    unfold ev1C
    rw [if_neg (by dsimp only; omega), if_neg (by dsimp only; omega), if_neg h3]
theorem Num.bin {c c2 : List Tok} {op : Int} (H : Num c) (H2 : Num c2) (h1 : 2 ≤ op) (h2 : op ≤ 5) : Num (c ++ (c2 ++ [(op, 0)])) := fun lt s => by
  obtain ⟨a, a1, a2⟩ := H lt s
  obtain ⟨b, b1, b2⟩ := H2 lt (a :: s)
  obtain ⟨o1, o2⟩ := ev_op (op := op) (a := a) (b := b) lt s h1 (by omega)
  refine ⟨wkd op a b, ?_, ?_⟩
  · rw [evs_app, evs_app, a1, b1, o1]
  · rw [evsC_app, evsC_app, a2, b2, o2, wkC, if_neg (by omega), if_neg (by omega)]
theorem Num.cmp {c c2 : List Tok} {op : Int} (H : Num c) (H2 : Num c2) (h1 : 6 ≤ op) (h2 : op ≤ 8) : Bln (c ++ (c2 ++ [(op, 0)])) := fun lt s => by
  obtain ⟨a, a1, a2⟩ := H lt s
  obtain ⟨b, b1, b2⟩ := H2 lt (a :: s)
  obtain ⟨o1, o2⟩ := ev_op (op := op) (a := a) (b := b) lt s (by omega) (by omega)
  refine ⟨wkd op a b, ?_, ?_, ?_⟩
  · unfold wkd
    rw [if_neg (by omega), if_neg (by omega), if_neg (by omega), if_neg (by omega)]
    repeat' split
    all_goals omega
  · rw [evs_app, evs_app, a1, b1, o1]
  · rw [evsC_app, evsC_app, a2, b2, o2, wkC, if_neg (by omega), if_neg (by omega)]
theorem Bln.bin {c c2 : List Tok} {op : Int} (H : Bln c) (H2 : Bln c2) (h1 : op = 10 ∨ op = 11) : Bln (c ++ (c2 ++ [(op, 0)])) := fun lt s => by
  obtain ⟨a, a0, a1, a2⟩ := H lt s
  obtain ⟨b, b0, b1, b2⟩ := H2 lt (a :: s)
  obtain ⟨o1, o2⟩ := ev_op (op := op) (a := a) (b := b) lt s (by omega) (by omega)
  have key : (wkd op a b = 0 ∨ wkd op a b = 1) ∧ wkC op a b = wkd op a b := by
    rcases a0 with rfl | rfl <;> rcases b0 with rfl | rfl <;> rcases h1 with rfl | rfl <;> decide
  refine ⟨wkd op a b, key.1, ?_, ?_⟩
  · rw [evs_app, evs_app, a1, b1, o1]
  · rw [evsC_app, evsC_app, a2, b2, o2, key.2]
theorem Bln.neg {c : List Tok} (H : Bln c) : Bln (c ++ [(9, 0)]) := fun lt s => by
  obtain ⟨a, a0, a1, a2⟩ := H lt s
  refine ⟨1 - a, by omega, ?_, ?_⟩
  · rw [evs_app, a1]; rfl
  · rw [evsC_app, a2]; rfl
def WS (h : Nat) (c : List Tok) : Prop := Hgt h c ∧ Num c
def WU (h : Nat) (c : List Tok) : Prop := Hgt h c ∧ Bln c
theorem sep_v {x op : Int} : (sepM x = some op → 4 ≤ op ∧ op ≤ 5) ∧ (sepA x = some op → 2 ≤ op ∧ op ≤ 3) ∧ (sepR x = some op → 6 ≤ op ∧ op ≤ 8) ∧ (sepN x = some op → op = 10) ∧ (sepO x = some op → op = 11) := by
  unfold sepM sepA sepR sepN sepO
  refine ⟨fun h => ?_, fun h => ?_, fun h => ?_, fun h => ?_, fun h => ?_⟩ <;> (repeat' split at h) <;> simp at h <;> omega
theorem shut_G {g : Nat → Int} {N : Nat} (hG : Gok g N) {W : List Tok → Prop} {R : Nat → PR} (hR : PGd g N W R) {s : Int} (hs : s ≠ -1) {p : Nat} (hp : p ≤ N) : (∀ q, shut g s (R p) = (q, none) → p ≤ q ∧ q ≤ N) ∧ (∀ q c, shut g s (R p) = (q, some c) → p < q ∧ q ≤ N ∧ sk g q = q ∧ p + c.length ≤ q ∧ W c) := by
  have h := hR p hp
  rcases h3 : R p with ⟨q, _ | c⟩
  · have := h.1 q h3
    exact ⟨fun q' e => by simp only [shut, Prod.mk.injEq, and_true] at e; omega, fun q' c' e => by simp [shut] at e⟩
  · obtain ⟨a1, a2, a3, a4, a5⟩ := h.2 q c h3
    by_cases e1 : g q = s
    · rw [shut_g e1]
      have hlt := hG.lt (p := q) (by omega)
      have h1 := sk_ge g (q + 1)
      have h2 := sk_le hG (p := q + 1) (by omega)
      exact ⟨fun q' e => by simp at e, fun q' c' e => by
        simp only [Prod.mk.injEq, Option.some.injEq] at e
        obtain ⟨rfl, rfl⟩ := e
        exact ⟨by omega, h2, sk_sk hG _, by omega, a5⟩⟩
    · rw [shut_n e1]
      exact ⟨fun q' e => by simp only [Prod.mk.injEq, and_true] at e; omega, fun q' c' e => by simp at e⟩
theorem letV_rng (c : Int) : -1 ≤ letV c ∧ letV c ≤ 5 := by
  unfold letV
  repeat' split
  all_goals omega
theorem letV_e {c : Int} (h : letV c ≠ -1) : c ≠ -1 := fun e => h (by rw [e]; rfl)
theorem pAt_G {g : Nat → Int} {N : Nat} (hG : Gok g N) {r h : Nat} {S : Nat → PR} (hS : r ≠ 0 → PGd g N (WS h) S) (hh : 1 ≤ h) : PGd g N (WS h) (pAt g r S) := by
  intro p hp
  unfold pAt
  split
  · next hd =>
    have h1 := pDg_G hG 4 p 0 hp (by omega)
    rcases h3 : pDg g 4 p 0 with ⟨q, _ | v⟩
    · have := h1.1 q h3
      exact ⟨fun q' e => by simp only [Prod.mk.injEq, and_true] at e; omega, fun q' c' e => by simp at e⟩
    · obtain ⟨a1, a2, a3, a4, a5, a6⟩ := h1.2 q v h3
      have hpq : p < q := by
        rw [pDg, if_pos hd] at h3
        have hlt := hG.lt (p := p) (by unfold isD at hd; omega)
        have := ((pDg_G hG 3 (p + 1) (10 * 0 + g p - 48) (by omega) (by unfold isD at hd; omega)).2 q v h3).1
        omega
      have h5 := sk_ge g q
      have h6 := sk_le hG a2
      exact ⟨fun q' e => by simp at e, fun q' c' e => by
        simp only [Prod.mk.injEq, Option.some.injEq] at e
        obtain ⟨rfl, rfl⟩ := e
        exact ⟨by omega, h6, sk_sk hG _, by simp only [List.length_cons, List.length_nil]; omega, fun n hn => by
          rw [okL]
          exact ⟨Or.inl ⟨rfl, a4, by omega⟩, fun _ => by omega, fun e => absurd e (by dsimp only; decide), fun e => absurd e.1 (by dsimp only; decide), rfl⟩, fun lt s => ⟨v, rfl, rfl⟩⟩⟩
  · split
    · next hl =>
      have hlt := hG.lt (letV_e hl)
      have h1 := sk_ge g (p + 1)
      have h2 := sk_le hG (p := p + 1) (by omega)
      have h3 := letV_rng (g p)
      exact ⟨fun q' e => by simp at e, fun q' c' e => by
        simp only [Prod.mk.injEq, Option.some.injEq] at e
        obtain ⟨rfl, rfl⟩ := e
        exact ⟨by omega, h2, sk_sk hG _, by simp only [List.length_cons, List.length_nil]; omega, fun n hn => by
          rw [okL]
          exact ⟨Or.inr (Or.inl ⟨rfl, by dsimp only; omega, h3.2⟩), fun _ => by omega, fun e => absurd e (by dsimp only; decide), fun e => absurd e.1 (by dsimp only; decide), rfl⟩, fun lt s => ⟨lt (letV (g p)).toNat, rfl, rfl⟩⟩⟩
    · split
      · next hb =>
        split
        · exact ⟨fun q' e => by simp only [Prod.mk.injEq, and_true] at e; omega, fun q' c' e => by simp at e⟩
        · next hr =>
          have hlt := hG.lt (p := p) (by omega)
          have h1 := sk_ge g (p + 1)
          have h2 := shut_G hG (hS hr) (s := 93) (by decide) (sk_le hG (p := p + 1) (by omega))
          exact ⟨fun q' e => by have := h2.1 q' e; omega, fun q' c' e => by
            obtain ⟨b1, b2, b3, b4, b5⟩ := h2.2 q' c' e
            exact ⟨by omega, b2, b3, by omega, b5⟩⟩
      · exact ⟨fun q' e => by simp only [Prod.mk.injEq, and_true] at e; omega, fun q' c' e => by simp at e⟩
theorem sumOf_G {g : Nat → Int} {N : Nat} (hG : Gok g N) {h : Nat} {A : Nat → PR} (hA : PGd g N (WS h) A) : PGd g N (WS (h + 1)) (chn g A sepM) ∧ PGd g N (WS (h + 2)) (chn g (chn g A sepM) sepA) := by
  have h1 : PGd g N (WS (h + 1)) (chn g A sepM) := chn_G hG hA rfl (fun c hc => ⟨hc.1.mono (by omega), hc.2⟩) (fun c c2 x op hc hc2 hs => by
    have := sep_v.1 hs
    exact ⟨hc.1.bin hc2.1 (by omega) (by omega) (by omega), hc.2.bin hc2.2 (by omega) (by omega)⟩)
  exact ⟨h1, chn_G hG h1 rfl (fun c hc => ⟨hc.1.mono (by omega), hc.2⟩) (fun c c2 x op hc hc2 hs => by
    have := sep_v.2.1 hs
    exact ⟨hc.1.bin hc2.1 (by omega) (by omega) (by omega), hc.2.bin hc2.2 (by omega) (by omega)⟩)⟩
theorem pAtom_G {g : Nat → Int} {N : Nat} (hG : Gok g N) : ∀ r, PGd g N (WS (1 + 2 * r)) (pAtom g r)
  | 0 => pAt_G hG (fun e => absurd rfl e) (by omega)
  | r + 1 => pAt_G hG (fun _ => (sumOf_G hG (pAtom_G hG r)).2) (by omega)
theorem pTerm_G {g : Nat → Int} {N : Nat} (hG : Gok g N) (r : Nat) : PGd g N (WS (2 + 2 * r)) (pTerm g r) := by
  rw [show 2 + 2 * r = 1 + 2 * r + 1 by omega]
  exact (sumOf_G hG (pAtom_G hG r)).1
theorem pSum_G {g : Nat → Int} {N : Nat} (hG : Gok g N) (r : Nat) : PGd g N (WS (3 + 2 * r)) (pSum g r) := by
  rw [show 3 + 2 * r = 1 + 2 * r + 2 by omega]
  exact (sumOf_G hG (pAtom_G hG r)).2
theorem pCmp_G {g : Nat → Int} {N : Nat} (hG : Gok g N) (r : Nat) {p : Nat} {c : List Tok} (hp : p ≤ N) (hc : WS (3 + 2 * r) c) : (∀ q, pCmp g r p c = (q, none) → p ≤ q ∧ q ≤ N) ∧ (∀ q c', pCmp g r p c = (q, some c') → p < q ∧ q ≤ N ∧ sk g q = q ∧ p + c'.length ≤ q + c.length ∧ WU (4 + 2 * r) c') := by
  cases h : sepR (g p) with
  | none =>
    rw [pCmp_n h]
    exact ⟨fun q' e => by simp only [Prod.mk.injEq, and_true] at e; omega, fun q' c' e => by simp at e⟩
  | some op =>
    have hlt : p < N := hG.lt (fun e => by rw [e, show sepR (-1) = none from rfl] at h; cases h)
    have h1 := sk_ge g (p + 1)
    have hi := pSum_G hG r (sk g (p + 1)) (sk_le hG (p := p + 1) (by omega))
    rcases h3 : pSum g r (sk g (p + 1)) with ⟨q, _ | c2⟩
    · rw [pCmp_b h h3]
      have := hi.1 q h3
      exact ⟨fun q' e => by simp only [Prod.mk.injEq, and_true] at e; omega, fun q' c' e => by simp at e⟩
    · rw [pCmp_g h h3]
      obtain ⟨a1, a2, a3, a4, a5⟩ := hi.2 q c2 h3
      have := sep_v.2.2.1 h
      exact ⟨fun q' e => by simp at e, fun q' c' e => by
        simp only [Prod.mk.injEq, Option.some.injEq] at e
        obtain ⟨rfl, rfl⟩ := e
        refine ⟨by omega, a2, a3, by simp only [List.length_append, List.length_cons, List.length_nil]; omega, ?_, hc.2.cmp a5.2 (by omega) (by omega)⟩
        have := Hgt.bin (h := 3 + 2 * r) (hc.1.mono (by omega)) a5.1 (op := op) (by omega) (by omega) (by omega)
        rw [show 4 + 2 * r = 3 + 2 * r + 1 by omega]
        exact this⟩
theorem condOf_G {g : Nat → Int} {N : Nat} (hG : Gok g N) {h : Nat} {U : Nat → PR} (hU : PGd g N (WU h) U) : PGd g N (WU (h + 1)) (chn g U sepN) ∧ PGd g N (WU (h + 2)) (chn g (chn g U sepN) sepO) := by
  have h1 : PGd g N (WU (h + 1)) (chn g U sepN) := chn_G hG hU rfl (fun c hc => ⟨hc.1.mono (by omega), hc.2⟩) (fun c c2 x op hc hc2 hs => by
    have := sep_v.2.2.2.1 hs
    exact ⟨hc.1.bin hc2.1 (by omega) (by omega) (by omega), hc.2.bin hc2.2 (by omega)⟩)
  exact ⟨h1, chn_G hG h1 rfl (fun c hc => ⟨hc.1.mono (by omega), hc.2⟩) (fun c c2 x op hc hc2 hs => by
    have := sep_v.2.2.2.2 hs
    exact ⟨hc.1.bin hc2.1 (by omega) (by omega) (by omega), hc.2.bin hc2.2 (by omega)⟩)⟩
theorem pUn_G {g : Nat → Int} {N : Nat} (hG : Gok g N) {r h : Nat} {U : Nat → PR} (hU : r ≠ 0 → PGd g N (WU h) U) (hh : 4 + 2 * r ≤ h + 2) : PGd g N (WU (h + 2)) (pUn g r U) := by
  intro p hp
  unfold pUn
  split
  · next hb =>
    split
    · exact ⟨fun q' e => by simp only [Prod.mk.injEq, and_true] at e; omega, fun q' c' e => by simp at e⟩
    · next hr =>
      have hlt := hG.lt (p := p) (by omega)
      have h1 := sk_ge g (p + 1)
      have hi := hU hr (sk g (p + 1)) (sk_le hG (p := p + 1) (by omega))
      rcases h3 : U (sk g (p + 1)) with ⟨q, _ | c⟩
      · have := hi.1 q h3
        exact ⟨fun q' e => by simp only [neg1, Prod.mk.injEq, and_true] at e; omega, fun q' c' e => by simp [neg1] at e⟩
      · obtain ⟨a1, a2, a3, a4, a5⟩ := hi.2 q c h3
        exact ⟨fun q' e => by simp [neg1] at e, fun q' c' e => by
          simp only [neg1, Prod.mk.injEq, Option.some.injEq] at e
          obtain ⟨rfl, rfl⟩ := e
          exact ⟨by omega, a2, a3, by simp only [List.length_append, List.length_cons, List.length_nil]; omega, (a5.1.neg).mono (by omega), a5.2.neg⟩⟩
  · split
    · next hb =>
      split
      · exact ⟨fun q' e => by simp only [Prod.mk.injEq, and_true] at e; omega, fun q' c' e => by simp at e⟩
      · next hr =>
        have hlt := hG.lt (p := p) (by omega)
        have h1 := sk_ge g (p + 1)
        have h2 := shut_G hG (condOf_G hG (hU hr)).2 (s := 41) (by decide) (sk_le hG (p := p + 1) (by omega))
        exact ⟨fun q' e => by have := h2.1 q' e; omega, fun q' c' e => by
          obtain ⟨b1, b2, b3, b4, b5⟩ := h2.2 q' c' e
          exact ⟨by omega, b2, b3, by omega, b5⟩⟩
    · have hi := pSum_G hG r p hp
      rcases h3 : pSum g r p with ⟨q, _ | c⟩
      · have := hi.1 q h3
        exact ⟨fun q' e => by simp only [cmpOf, Prod.mk.injEq, and_true] at e; omega, fun q' c' e => by simp [cmpOf] at e⟩
      · obtain ⟨a1, a2, a3, a4, a5⟩ := hi.2 q c h3
        have h4 := pCmp_G hG r a2 a5
        exact ⟨fun q' e => by have := h4.1 q' e; omega, fun q' c' e => by
          obtain ⟨b1, b2, b3, b4, b5⟩ := h4.2 q' c' e
          exact ⟨by omega, b2, b3, by omega, b5.1.mono hh, b5.2⟩⟩
theorem pUnit_G {g : Nat → Int} {N : Nat} (hG : Gok g N) : ∀ r, PGd g N (WU (4 + 2 * r)) (pUnit g r)
  | 0 => pUn_G (h := 2) hG (fun e => absurd rfl e) (by omega)
  | r + 1 => pUn_G (h := 4 + 2 * r) hG (fun _ => pUnit_G hG r) (by omega)
theorem pCond_G {g : Nat → Int} {N : Nat} (hG : Gok g N) (r : Nat) : PGd g N (WU (6 + 2 * r)) (pCond g r) := by
  rw [show 6 + 2 * r = 4 + 2 * r + 2 by omega]
  exact (condOf_G hG (pUnit_G hG r)).2
theorem pAnd_G {g : Nat → Int} {N : Nat} (hG : Gok g N) (r : Nat) : PGd g N (WU (5 + 2 * r)) (chn g (pUnit g r) sepN) := by
  rw [show 5 + 2 * r = 4 + 2 * r + 1 by omega]
  exact (condOf_G hG (pUnit_G hG r)).1
