/-! ## what a state is: ranges, and the words of the document -/
/-- the numbers of a town's state, as the reference lays them: met 0.., feigned 6.., chain 18.., asks 24.., door 29, steps 30, away 31, harm 32, coins 33, by the rest 34, by him 35, year 36, logged 37, the log 38.. -/
def NowOK (f : Nat → Int) : Prop :=
  (∀ p, p < 6 → 0 ≤ f p ∧ f p ≤ 9) ∧ (∀ j, j < 12 → 0 ≤ f (6 + j) ∧ f (6 + j) ≤ 3) ∧ (∀ p, p < 6 → 0 ≤ f (18 + p) ∧ f (18 + p) ≤ 99) ∧ (∀ t, t < 5 → 0 ≤ f (24 + t) ∧ f (24 + t) ≤ 9) ∧
  (0 ≤ f 29 ∧ f 29 ≤ 20) ∧ (0 ≤ f 30 ∧ f 30 ≤ 40) ∧ (0 ≤ f 31 ∧ f 31 ≤ 63) ∧ (0 ≤ f 32 ∧ f 32 ≤ 9999) ∧ (0 ≤ f 33 ∧ f 33 ≤ 999) ∧ (0 ≤ f 34 ∧ f 34 ≤ f 36) ∧ (0 ≤ f 35 ∧ f 35 ≤ f 36) ∧ f 36 ≤ 1100 ∧ (0 ≤ f 37 ∧ f 37 ≤ 60)
/-- the reference's memory but the counts of what was refused -/
def WFM (μ : Mm) : Prop := ∀ k i, k ≠ 18 → InR (μ.1 k i)
/-- the reference's memory: a town's ranges -/
def MB (μ : Mm) : Prop :=
  WFM μ ∧ (0 ≤ μ.1 0 25 ∧ μ.1 0 25 ≤ 6) ∧ (0 ≤ μ.1 0 26 ∧ μ.1 0 26 ≤ 5) ∧
  (∀ p, p < 6 → (0 ≤ μ.1 15 (4 * p) ∧ μ.1 15 (4 * p) ≤ 9) ∧ (0 ≤ μ.1 15 (4 * p + 1) ∧ μ.1 15 (4 * p + 1) ≤ 9) ∧ (0 ≤ μ.1 15 (4 * p + 2) ∧ μ.1 15 (4 * p + 2) ≤ 9) ∧ (0 ≤ μ.1 15 (4 * p + 3) ∧ μ.1 15 (4 * p + 3) ≤ 20)) ∧
  (∀ t, t < 5 → (0 ≤ μ.1 16 (3 * t) ∧ μ.1 16 (3 * t) ≤ 2) ∧ (0 ≤ μ.1 16 (3 * t + 1) ∧ μ.1 16 (3 * t + 1) ≤ 9) ∧ (0 ≤ μ.1 16 (3 * t + 2) ∧ μ.1 16 (3 * t + 2) ≤ 9)) ∧
  ((0 ≤ μ.1 14 0 ∧ μ.1 14 0 ≤ 9) ∧ (0 ≤ μ.1 14 1 ∧ μ.1 14 1 ≤ 9) ∧ (0 ≤ μ.1 14 2 ∧ μ.1 14 2 ≤ 9) ∧ (0 ≤ μ.1 14 3 ∧ μ.1 14 3 ≤ 99)) ∧
  NowOK (μ.1 17)
theorem MB.wf {μ : Mm} (h : MB μ) : WFM μ := h.1
theorem MB.np {μ : Mm} (h : MB μ) : 0 ≤ μ.1 0 25 ∧ μ.1 0 25 ≤ 6 := h.2.1
theorem MB.nt {μ : Mm} (h : MB μ) : 0 ≤ μ.1 0 26 ∧ μ.1 0 26 ≤ 5 := h.2.2.1
theorem MB.per {μ : Mm} (h : MB μ) {p k : Nat} (hp : p < 6) (hk : k < 4) : 0 ≤ μ.1 15 (4 * p + k) ∧ μ.1 15 (4 * p + k) ≤ 20 := by
  have h1 := h.2.2.2.1 p hp
  rcases (show k = 0 ∨ k = 1 ∨ k = 2 ∨ k = 3 by omega) with rfl | rfl | rfl | rfl
  · exact ⟨h1.1.1, by have := h1.1.2; simp only [Nat.add_zero]; omega⟩
  · omega
  · omega
  · omega
theorem MB.now {μ : Mm} (h : MB μ) : NowOK (μ.1 17) := h.2.2.2.2.2.2
/-- bit k of a set -/
def hasB (s : Int) (k : Nat) : Bool := decide (bAnd (bShr s (k : Int)) 1 = 1)
/-- of those below n who may be, the one with most, of several the lowest; -1: nobody -/
def best (ok : Nat → Bool) (val : Nat → Int) : Nat → Int
  | 0 => -1
  | p + 1 => if ok p = true ∧ (best ok val p = -1 ∨ val (best ok val p).toNat < val p) then (p : Int) else best ok val p
theorem best_rng (ok : Nat → Bool) (val : Nat → Int) : ∀ n : Nat, best ok val n = -1 ∨ (0 ≤ best ok val n ∧ best ok val n < (n : Int))
  | 0 => Or.inl rfl
  | n + 1 => by
    have := best_rng ok val n
    unfold best
    split
    · right; omega
    · omega
/-- a number held within -m .. m -/
def clampI (m a : Int) : Int := max (-m) (min m a)
/-! ## laws: rows of tokens (what, number) and their worth -/
abbrev Tok : Type := Int × Int
def wkd (c a b : Int) : Int :=
  if c = 2 then clampI 1000000 (a + b) else if c = 3 then clampI 1000000 (a - b) else if c = 4 then clampI 1000000 (a * b) else if c = 5 then (if b = 0 then 0 else clampI 1000000 (a.tdiv b))
  else if c = 6 then (if a = b then 1 else 0) else if c = 7 then (if a < b then 1 else 0) else if c = 8 then (if b < a then 1 else 0) else if c = 10 then (if a ≠ 0 ∧ b ≠ 0 then 1 else 0) else (if a ≠ 0 ∨ b ≠ 0 then 1 else 0)
/-- one token on a row of numbers, the latest first -/
def ev1 (lt : Nat → Int) (s : List Int) (t : Tok) : List Int :=
  if t.1 = 0 then t.2 :: s else if t.1 = 1 then lt t.2.toNat :: s else if t.1 = 9 then (match s with
    | a :: r => (1 - a) :: r
    | [] => [])
  else (match s with
    | b :: a :: r => wkd t.1 a b :: r
    | _ => [])
def evs (lt : Nat → Int) (ts : List Tok) (s : List Int) : List Int := ts.foldl (ev1 lt) s
/-- a token is one: a number, a letter, a sign -/
def tokOk (t : Tok) : Prop := (t.1 = 0 ∧ 0 ≤ t.2 ∧ t.2 ≤ 9999) ∨ (t.1 = 1 ∧ 0 ≤ t.2 ∧ t.2 ≤ 5) ∨ (2 ≤ t.1 ∧ t.1 ≤ 11)
/-- how many numbers stand there behind tokens; none: too few, too many -/
def dpt : List Tok → Nat → Option Nat
  | [], n => some n
  | t :: ts, n => if t.1 = 0 ∨ t.1 = 1 then (if n < 31 then dpt ts (n + 1) else none) else if t.1 = 9 then (if 1 ≤ n then dpt ts n else none) else (if 2 ≤ n then dpt ts (n - 1) else none)
