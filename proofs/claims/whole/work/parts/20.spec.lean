/-! ## what a state is: ranges, and the words of the document -/
/-- the numbers of a town's state, as the reference lays them: met 0.., feigned 6.., chain 18.., asks 24.., door 29, steps 30, away 31, harm 32, coins 33, by the rest 34, by him 35, year 36, logged 37, the log 38.. -/
def NowOK (f : Nat → Int) : Prop :=
  (∀ p, p < 6 → 0 ≤ f p ∧ f p ≤ 9) ∧ (∀ j, j < 12 → 0 ≤ f (6 + j) ∧ f (6 + j) ≤ 3) ∧ (∀ p, p < 6 → 0 ≤ f (18 + p) ∧ f (18 + p) ≤ 99) ∧ (∀ t, t < 5 → 0 ≤ f (24 + t) ∧ f (24 + t) ≤ 9) ∧
  (0 ≤ f 29 ∧ f 29 ≤ 20) ∧ (0 ≤ f 30 ∧ f 30 ≤ 40) ∧ (0 ≤ f 31 ∧ f 31 ≤ 63) ∧ (0 ≤ f 32 ∧ f 32 ≤ 9999) ∧ (0 ≤ f 33 ∧ f 33 ≤ 999) ∧ (0 ≤ f 34 ∧ f 34 ≤ f 36) ∧ (0 ≤ f 35 ∧ f 35 ≤ f 36) ∧ f 36 ≤ 1100 ∧ (0 ≤ f 37 ∧ f 37 ≤ 60)
/-- the reference's memory: a town's ranges -/
def MB (μ : Mm) : Prop :=
  (0 ≤ μ.1 0 25 ∧ μ.1 0 25 ≤ 6) ∧ (0 ≤ μ.1 0 26 ∧ μ.1 0 26 ≤ 5) ∧
  ((∀ p, p < 6 → ∀ k, k < 4 → 0 ≤ μ.1 15 (4 * p + k) ∧ μ.1 15 (4 * p + k) ≤ 99) ∧ ∀ p : Nat, (p : Int) < μ.1 0 25 → (0 ≤ μ.1 15 (4 * p) ∧ μ.1 15 (4 * p) ≤ 9) ∧ (0 ≤ μ.1 15 (4 * p + 1) ∧ μ.1 15 (4 * p + 1) ≤ 9) ∧ (0 ≤ μ.1 15 (4 * p + 2) ∧ μ.1 15 (4 * p + 2) ≤ 9) ∧ (0 ≤ μ.1 15 (4 * p + 3) ∧ μ.1 15 (4 * p + 3) ≤ 20)) ∧
  (∀ t : Nat, (t : Int) < μ.1 0 26 → (0 ≤ μ.1 16 (3 * t) ∧ μ.1 16 (3 * t) ≤ 2) ∧ (0 ≤ μ.1 16 (3 * t + 1) ∧ μ.1 16 (3 * t + 1) ≤ 9) ∧ (0 ≤ μ.1 16 (3 * t + 2) ∧ μ.1 16 (3 * t + 2) ≤ 9)) ∧
  ((0 ≤ μ.1 14 0 ∧ μ.1 14 0 ≤ 9) ∧ (0 ≤ μ.1 14 1 ∧ μ.1 14 1 ≤ 9) ∧ (0 ≤ μ.1 14 2 ∧ μ.1 14 2 ≤ 9) ∧ (0 ≤ μ.1 14 3 ∧ μ.1 14 3 ≤ 99)) ∧
  NowOK (μ.1 17)
theorem MB.np {μ : Mm} (h : MB μ) : 0 ≤ μ.1 0 25 ∧ μ.1 0 25 ≤ 6 := h.1
theorem MB.nt {μ : Mm} (h : MB μ) : 0 ≤ μ.1 0 26 ∧ μ.1 0 26 ≤ 5 := h.2.1
theorem MB.per {μ : Mm} (h : MB μ) {p k : Nat} (hp : p < 6) (hk : k < 4) : 0 ≤ μ.1 15 (4 * p + k) ∧ μ.1 15 (4 * p + k) ≤ 99 := h.2.2.1.1 p hp k hk
theorem MB.tra {μ : Mm} (h : MB μ) {p k : Nat} (hp : p < 6) (hk : k < 3) : 0 ≤ μ.1 15 (4 * p + k) ∧ μ.1 15 (4 * p + k) ≤ 99 := h.2.2.1.1 p hp k (by omega)
theorem MB.pe2 {μ : Mm} (h : MB μ) {p : Nat} (hp : (p : Int) < μ.1 0 25) : (0 ≤ μ.1 15 (4 * p) ∧ μ.1 15 (4 * p) ≤ 9) ∧ (0 ≤ μ.1 15 (4 * p + 1) ∧ μ.1 15 (4 * p + 1) ≤ 9) ∧ (0 ≤ μ.1 15 (4 * p + 2) ∧ μ.1 15 (4 * p + 2) ≤ 9) ∧ (0 ≤ μ.1 15 (4 * p + 3) ∧ μ.1 15 (4 * p + 3) ≤ 20) := h.2.2.1.2 p hp
theorem MB.tr {μ : Mm} (h : MB μ) {t : Nat} (ht : (t : Int) < μ.1 0 26) : (0 ≤ μ.1 16 (3 * t) ∧ μ.1 16 (3 * t) ≤ 2) ∧ (0 ≤ μ.1 16 (3 * t + 1) ∧ μ.1 16 (3 * t + 1) ≤ 9) ∧ (0 ≤ μ.1 16 (3 * t + 2) ∧ μ.1 16 (3 * t + 2) ≤ 9) := h.2.2.2.1 t ht
theorem MB.ru {μ : Mm} (h : MB μ) : (0 ≤ μ.1 14 0 ∧ μ.1 14 0 ≤ 9) ∧ (0 ≤ μ.1 14 1 ∧ μ.1 14 1 ≤ 9) ∧ (0 ≤ μ.1 14 2 ∧ μ.1 14 2 ≤ 9) ∧ (0 ≤ μ.1 14 3 ∧ μ.1 14 3 ≤ 99) := h.2.2.2.2.1
theorem MB.now {μ : Mm} (h : MB μ) : NowOK (μ.1 17) := h.2.2.2.2.2
theorem NowOK.met {f : Nat → Int} (h : NowOK f) {p : Nat} (hp : p < 6) : 0 ≤ f p ∧ f p ≤ 9 := h.1 p hp
theorem NowOK.fei {f : Nat → Int} (h : NowOK f) {j : Nat} (hj : 6 ≤ j) (hj2 : j < 18) : 0 ≤ f j ∧ f j ≤ 3 := by
  have := h.2.1 (j - 6) (by omega)
  rwa [show 6 + (j - 6) = j by omega] at this
theorem NowOK.cha {f : Nat → Int} (h : NowOK f) {j : Nat} (hj : 18 ≤ j) (hj2 : j < 24) : 0 ≤ f j ∧ f j ≤ 99 := by
  have := h.2.2.1 (j - 18) (by omega)
  rwa [show 18 + (j - 18) = j by omega] at this
theorem NowOK.ask {f : Nat → Int} (h : NowOK f) {j : Nat} (hj : 24 ≤ j) (hj2 : j < 29) : 0 ≤ f j ∧ f j ≤ 9 := by
  have := h.2.2.2.1 (j - 24) (by omega)
  rwa [show 24 + (j - 24) = j by omega] at this
theorem NowOK.rest {f : Nat → Int} (h : NowOK f) : (0 ≤ f 29 ∧ f 29 ≤ 20) ∧ (0 ≤ f 30 ∧ f 30 ≤ 40) ∧ (0 ≤ f 31 ∧ f 31 ≤ 63) ∧ (0 ≤ f 32 ∧ f 32 ≤ 9999) ∧ (0 ≤ f 33 ∧ f 33 ≤ 999) ∧ (0 ≤ f 34 ∧ f 34 ≤ f 36) ∧ (0 ≤ f 35 ∧ f 35 ≤ f 36) ∧ f 36 ≤ 1100 ∧ (0 ≤ f 37 ∧ f 37 ≤ 60) := h.2.2.2.2
/-- bit k of a set -/
def hasB (s : Int) (k : Nat) : Bool := decide (bAnd (bShr s (k : Int)) 1 = 1)
/-- of those below n who may be, the one with most, of several the lowest; -1: nobody -/
def best (ok : Nat → Bool) (val : Nat → Int) : Nat → Int
  | 0 => -1
  | p + 1 => if ok p = true ∧ (best ok val p = -1 ∨ val (best ok val p).toNat < val p) then (p : Int) else best ok val p
theorem best_rng (ok : Nat → Bool) (val : Nat → Int) : ∀ n : Nat, best ok val n = -1 ∨ (0 ≤ best ok val n ∧ best ok val n < (n : Int))
  | 0 => Or.inl rfl
  | n + 1 => by
    have := best_rng ok val n
    unfold best
    split
    · right; omega
    · omega
/-- a number held within -m .. m -/
def clampI (m a : Int) : Int := max (-m) (min m a)
/-! ## laws: rows of tokens (what, number) and their worth -/
abbrev Tok : Type := Int × Int
def wkd (c a b : Int) : Int :=
  if c = 2 then clampI 1000000 (a + b) else if c = 3 then clampI 1000000 (a - b) else if c = 4 then clampI 1000000 (a * b) else if c = 5 then (if b = 0 then 0 else clampI 1000000 (a.tdiv b))
  else if c = 6 then (if a = b then 1 else 0) else if c = 7 then (if a < b then 1 else 0) else if c = 8 then (if b < a then 1 else 0) else if c = 10 then (if a ≠ 0 ∧ b ≠ 0 then 1 else 0) else (if a ≠ 0 ∨ b ≠ 0 then 1 else 0)
/-- one token on a row of numbers, the latest first -/
def ev1 (lt : Nat → Int) (s : List Int) (t : Tok) : List Int :=
  if t.1 = 0 then t.2 :: s else if t.1 = 1 then lt t.2.toNat :: s else if t.1 = 9 then (match s with
    | a :: r => (1 - a) :: r
    | [] => [])
  else (match s with
    | b :: a :: r => wkd t.1 a b :: r
    | _ => [])
def evs (lt : Nat → Int) (ts : List Tok) (s : List Int) : List Int := ts.foldl (ev1 lt) s
/-- a token is one: a number, a letter, a sign -/
def tokOk (t : Tok) : Prop := (t.1 = 0 ∧ 0 ≤ t.2 ∧ t.2 ≤ 9999) ∨ (t.1 = 1 ∧ 0 ≤ t.2 ∧ t.2 ≤ 5) ∨ (2 ≤ t.1 ∧ t.1 ≤ 11)
/-- how many numbers stand there behind tokens; none: too few, too many -/
def dpt : List Tok → Nat → Option Nat
  | [], n => some n
  | t :: ts, n => if t.1 = 0 ∨ t.1 = 1 then (if n < 31 then dpt ts (n + 1) else none) else if t.1 = 9 then (if 1 ≤ n then dpt ts n else none) else (if 2 ≤ n then dpt ts (n - 1) else none)
/-- c tokens from place k on, over a row of numbers -/
def evR (cd vl : Nat → Int) (lt : Nat → Int) : Nat → Nat → List Int → List Int
  | 0, _, s => s
  | c + 1, k, s => evR cd vl lt c (k + 1) (ev1 lt s (cd k, vl k))
/-- c tokens from place k on are good over n numbers, and leave one -/
def okR (cd vl : Nat → Int) : Nat → Nat → Nat → Prop
  | 0, _, n => n = 1
  | c + 1, k, n => tokOk (cd k, vl k) ∧ ((cd k = 0 ∨ cd k = 1) → n < 31) ∧ (cd k = 9 → 1 ≤ n) ∧ ((2 ≤ cd k ∧ cd k ≠ 9) → 2 ≤ n) ∧ okR cd vl c (k + 1) (if cd k = 0 ∨ cd k = 1 then n + 1 else if cd k = 9 then n else n - 1)
/-- a row's numbers, the latest first, as they lie in a cell -/
def Rep (f : Nat → Int) : List Int → Prop
  | [] => True
  | a :: r => f r.length = a ∧ Rep f r
theorem Rep.of {f g : Nat → Int} : ∀ {s : List Int}, Rep f s → (∀ i, i < s.length → g i = f i) → Rep g s
  | [], _, _ => trivial
  | a :: r, h, hg => ⟨by rw [hg r.length (by simp)]; exact h.1, Rep.of h.2 (fun i hi => hg i (by simp; omega))⟩
def lim (B : Int) (s : List Int) : Prop := ∀ a ∈ s, -B ≤ a ∧ a ≤ B
theorem lim.mono {B C : Int} {s : List Int} (h : lim B s) (hBC : B ≤ C) : lim C s := fun a ha => by have := h a ha; omega
theorem lim.cons {B : Int} {s : List Int} {a : Int} (h : lim B s) (h1 : -B ≤ a) (h2 : a ≤ B) : lim B (a :: s) := fun x hx => by
  rcases List.mem_cons.mp hx with rfl | hx
  · exact ⟨h1, h2⟩
  · exact h x hx
theorem clampI_rng {m a : Int} (hm : 0 ≤ m) : -m ≤ clampI m a ∧ clampI m a ≤ m := by unfold clampI; omega
theorem wkd_rng (c a b : Int) : -1000000 ≤ wkd c a b ∧ wkd c a b ≤ 1000000 := by
  unfold wkd
  have h1 := clampI_rng (m := 1000000) (a := a + b) (by omega)
  have h2 := clampI_rng (m := 1000000) (a := a - b) (by omega)
  have h3 := clampI_rng (m := 1000000) (a := a * b) (by omega)
  have h4 := clampI_rng (m := 1000000) (a := a.tdiv b) (by omega)
  repeat' split
  all_goals omega
/-- the same but for some cells -/
def Sc (S : Nat → Bool) (μ m : Mm) : Prop := (∀ k i, S k = false → m.1 k i = μ.1 k i) ∧ m.2 = μ.2
theorem Sc.rf {S : Nat → Bool} {μ : Mm} : Sc S μ μ := ⟨fun _ _ _ => rfl, rfl⟩
theorem Sc.tr {S : Nat → Bool} {a b c : Mm} (h : Sc S a b) (h2 : Sc S b c) : Sc S a c := ⟨fun k i hk => (h2.1 k i hk).trans (h.1 k i hk), h2.2.trans h.2⟩
theorem Sc.mst {S : Nat → Bool} {μ m : Mm} {k i : Nat} {v : Int} (h : Sc S μ m) (hk : S k = true) : Sc S μ (mst m k i v) := ⟨fun k' i' h' => by
  rw [mst_nk (fun e => by rw [e, hk] at h'; cases h')]
  exact h.1 k' i' h', h.2⟩
theorem Sc.mono {S S' : Nat → Bool} {a b : Mm} (h : Sc S a b) (hs : ∀ k, S' k = false → S k = false) : Sc S' a b := ⟨fun k i hk => h.1 k i (hs k hk), h.2⟩
def s10 (k : Nat) : Bool := k == 10
def s9 (k : Nat) : Bool := k == 9 || k == 10
/-- the reference's law n: from clause j on, r clauses: the worth -/
def worthM (μ : Mm) (n : Nat) (lt : Nat → Int) : Nat → Nat → Int
  | 0, _ => 0
  | r + 1, j => if μ.1 6 j = μ.1 7 j ∨ (evR (μ.1 2) (μ.1 3) lt ((μ.1 7 j).toNat - (μ.1 6 j).toNat) (520 * n + (μ.1 6 j).toNat) []).headD 0 ≠ 0 then (evR (μ.1 2) (μ.1 3) lt ((μ.1 8 j).toNat - (μ.1 7 j).toNat) (520 * n + (μ.1 7 j).toNat) []).headD 0 else worthM μ n lt r (j + 1)
/-- the reference's law n can be reckoned -/
def LawV (μ : Mm) (n : Nat) : Prop := (0 ≤ μ.1 5 n ∧ μ.1 5 n ≤ 140) ∧ ∀ j, 140 * n ≤ j → (j : Int) < 140 * n + μ.1 5 n → 0 ≤ μ.1 6 j ∧ μ.1 6 j ≤ μ.1 7 j ∧ μ.1 7 j ≤ μ.1 8 j ∧ μ.1 8 j ≤ 520 ∧ (μ.1 6 j ≠ μ.1 7 j → okR (μ.1 2) (μ.1 3) ((μ.1 7 j).toNat - (μ.1 6 j).toNat) (520 * n + (μ.1 6 j).toNat) 0) ∧ okR (μ.1 2) (μ.1 3) ((μ.1 8 j).toNat - (μ.1 7 j).toNat) (520 * n + (μ.1 7 j).toNat) 0
/-! ## whom he takes to -/
def seemsM (μ : Mm) (p k : Nat) : Int := if k = 2 then μ.1 15 (4 * p + 2) else min 9 (μ.1 15 (4 * p + k) + 2 * μ.1 17 (6 + 2 * p + k))
def ltM (μ : Mm) (p : Nat) (i : Nat) : Int := match i with
  | 0 => seemsM μ p 0
  | 1 => seemsM μ p 1
  | 2 => μ.1 15 (4 * p + 2)
  | 3 => μ.1 17 p
  | 4 => μ.1 17 (18 + p)
  | _ => μ.1 17 36 % 100
def rawM (μ : Mm) (p : Nat) : Int := if μ.1 0 29 = -1 then μ.1 14 0 * seemsM μ p 0 + μ.1 14 1 * seemsM μ p 1 - μ.1 14 2 * μ.1 15 (4 * p + 2) else worthM μ (μ.1 0 29).toNat (ltM μ p) (μ.1 5 (μ.1 0 29).toNat).toNat (140 * (μ.1 0 29).toNat)
def appealM (μ : Mm) (p : Nat) : Int := clampI 99 (rawM μ p)
/-- the law that holds, if one does, can be reckoned -/
def HoldOK (μ : Mm) : Prop := μ.1 0 29 = -1 ∨ ((0 ≤ μ.1 0 29 ∧ μ.1 0 29 ≤ 3) ∧ LawV μ (μ.1 0 29).toNat)
def MG (μ : Mm) : Prop := MB μ ∧ HoldOK μ
theorem Sc.fn {S : Nat → Bool} {μ m : Mm} (h : Sc S μ m) {k : Nat} (hk : S k = false) : m.1 k = μ.1 k := funext (fun i => h.1 k i hk)
theorem seemsM_Sc {μ m : Mm} (h : Sc s9 μ m) (p k : Nat) : seemsM m p k = seemsM μ p k := by
  unfold seemsM; rw [h.fn (k := 15) rfl, h.fn (k := 17) rfl]
theorem ltM_Sc {μ m : Mm} (h : Sc s9 μ m) (p : Nat) : ltM m p = ltM μ p := by
  funext i
  unfold ltM
  split <;> simp only [seemsM_Sc h, h.fn (k := 15) rfl, h.fn (k := 17) rfl]
theorem worthM_Sc {μ m : Mm} (h : Sc s9 μ m) (n : Nat) (lt : Nat → Int) : ∀ r j, worthM m n lt r j = worthM μ n lt r j
  | 0, _ => rfl
  | r + 1, j => by
    rw [worthM, worthM, worthM_Sc h n lt r (j + 1), h.fn (k := 2) rfl, h.fn (k := 3) rfl, h.fn (k := 6) rfl, h.fn (k := 7) rfl, h.fn (k := 8) rfl]
theorem appealM_Sc {μ m : Mm} (h : Sc s9 μ m) (p : Nat) : appealM m p = appealM μ p := by
  unfold appealM rawM
  rw [seemsM_Sc h, seemsM_Sc h, ltM_Sc h, worthM_Sc h, h.fn (k := 0) rfl, h.fn (k := 14) rfl, h.fn (k := 15) rfl, h.fn (k := 5) rfl]
theorem MG.Sc {μ m : Mm} (hG : MG μ) (h : Sc s9 μ m) : MG m := by
  unfold MG MB HoldOK LawV at *
  rw [h.fn (k := 0) rfl, h.fn (k := 14) rfl, h.fn (k := 15) rfl, h.fn (k := 16) rfl, h.fn (k := 17) rfl, h.fn (k := 2) rfl, h.fn (k := 3) rfl, h.fn (k := 5) rfl, h.fn (k := 6) rfl, h.fn (k := 7) rfl, h.fn (k := 8) rfl]
  exact hG
theorem ev1_lt {lt lt' : Nat → Int} (h : ∀ i, i < 6 → lt i = lt' i) {t : Tok} (ht : tokOk t) (s : List Int) : ev1 lt s t = ev1 lt' s t := by
  unfold ev1
  split
  · rfl
  · split
    · rw [h t.2.toNat (by unfold tokOk at ht; omega)]
    · rfl
theorem evR_lt {cd vl lt lt' : Nat → Int} (h : ∀ i, i < 6 → lt i = lt' i) : ∀ c k n s, okR cd vl c k n → evR cd vl lt c k s = evR cd vl lt' c k s
  | 0, _, _, _, _ => rfl
  | c + 1, k, n, s, hok => by
    rw [evR, evR, ev1_lt h hok.1]
    exact evR_lt h c (k + 1) _ _ hok.2.2.2.2
theorem worthM_lt {μ : Mm} {n : Nat} (hV : LawV μ n) {lt lt' : Nat → Int} (h : ∀ i, i < 6 → lt i = lt' i) : ∀ (r j : Nat), 140 * n ≤ j → (j : Int) + r = 140 * n + μ.1 5 n → worthM μ n lt r j = worthM μ n lt' r j
  | 0, _, _, _ => rfl
  | r + 1, j, h1, h2 => by
    obtain ⟨a1, a2, a3, a4, a5, a6⟩ := hV.2 j h1 (by omega)
    rw [worthM, worthM, worthM_lt hV h r (j + 1) (by omega) (by omega), evR_lt h _ _ _ _ a6]
    by_cases e : μ.1 6 j = μ.1 7 j
    · rw [if_pos (Or.inl e), if_pos (Or.inl e)]
    · rw [evR_lt h _ _ _ _ (a5 e)]
theorem clamp_R {a : Int} : -99 ≤ clampI 99 a ∧ clampI 99 a ≤ 99 := clampI_rng (by omega)
def mayM (μ : Mm) (p : Nat) : Bool := !hasB (μ.1 17 31) p && decide (0 < μ.1 17 p)
def himM (μ : Mm) (n : Nat) : Int := best (mayM μ) (appealM μ) n
def restM (μ : Mm) (n : Nat) : Int := best (fun p => !hasB (μ.1 17 31) p) (fun p => μ.1 15 (4 * p + 2)) n
def pickM (μ : Mm) (n : Nat) : Int := if himM μ n = -1 then restM μ n else himM μ n
theorem mayM_Sc {μ m : Mm} (h : Sc s9 μ m) (p : Nat) : mayM m p = mayM μ p := by unfold mayM; rw [h.fn (k := 17) rfl]
theorem best_succ (ok : Nat → Bool) (val : Nat → Int) (p : Nat) : best ok val (p + 1) = if ok p = true ∧ (best ok val p = -1 ∨ val (best ok val p).toNat < val p) then (p : Int) else best ok val p := rfl
theorem best_congr {ok ok' : Nat → Bool} {val val' : Nat → Int} : ∀ (n : Nat), (∀ p, p < n → ok p = ok' p) → (∀ p, p < n → val p = val' p) → best ok val n = best ok' val' n
  | 0, _, _ => rfl
  | n + 1, h1, h2 => by
    rw [best_succ, best_succ, best_congr n (fun p hp => h1 p (by omega)) (fun p hp => h2 p (by omega)), h1 n (by omega), h2 n (by omega)]
    rcases best_rng ok' val' n with h | h
    · rw [h]; simp
    · rw [h2 (best ok' val' n).toNat (by omega)]
theorem himM_Sc {μ m : Mm} (h : Sc s9 μ m) (n : Nat) : himM m n = himM μ n := best_congr n (fun p _ => mayM_Sc h p) (fun p _ => appealM_Sc h p)
theorem restM_Sc {μ m : Mm} (h : Sc s9 μ m) (n : Nat) : restM m n = restM μ n := by unfold restM; rw [h.fn (k := 17) rfl, h.fn (k := 15) rfl]
theorem pickM_Sc {μ m : Mm} (h : Sc s9 μ m) (n : Nat) : pickM m n = pickM μ n := by unfold pickM; rw [himM_Sc h, restM_Sc h]
theorem pickM_rng (μ : Mm) (n : Nat) : pickM μ n = -1 ∨ (0 ≤ pickM μ n ∧ pickM μ n < (n : Int)) := by
  unfold pickM
  split
  · exact best_rng _ _ n
  · exact best_rng _ _ n
/-- troubles (bits) that one meets, of the first t -/
def metB (tr : Nat → Int) (asks : Nat → Int) : Nat → Int
  | 0 => 0
  | t + 1 => bOr (metB tr asks t) (if asks t ≤ tr t then bShl 1 (t : Int) else 0)
def metM (μ : Mm) (p : Int) (t : Nat) : Int := if p = -1 then 0 else metB (fun t => μ.1 15 (4 * p.toNat + (μ.1 16 (3 * t)).toNat)) (fun t => μ.1 17 (24 + t)) t
theorem metM_Sc {μ m : Mm} (h : Sc s9 μ m) (p : Int) (t : Nat) : metM m p t = metM μ p t := by unfold metM; rw [h.fn (k := 15) rfl, h.fn (k := 16) rfl, h.fn (k := 17) rfl]
theorem metM_s {μ : Mm} {q : Int} (hq : q ≠ -1) (t : Nat) : metM μ q (t + 1) = bOr (metM μ q t) (if μ.1 17 (24 + t) ≤ μ.1 15 (4 * q.toNat + (μ.1 16 (3 * t)).toNat) then bShl 1 (t : Int) else 0) := by
  unfold metM
  rw [if_neg hq, if_neg hq]
  rfl
theorem metM_n {μ : Mm} {t : Nat} : metM μ (-1) t = 0 := rfl
theorem metM_0 {μ : Mm} {q : Int} : metM μ q 0 = 0 := by
  unfold metM
  split <;> rfl
