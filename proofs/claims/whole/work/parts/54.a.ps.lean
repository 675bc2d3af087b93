
/-! ## the reference's reading: its memory -/
/-- the same but for some places -/
def Fr (S : Nat → Nat → Prop) (μ m : Mm) : Prop := (∀ k i, ¬ S k i → m.1 k i = μ.1 k i) ∧ m.2 = μ.2
theorem Fr.rf {S : Nat → Nat → Prop} {μ : Mm} : Fr S μ μ := ⟨fun _ _ _ => rfl, rfl⟩
theorem Fr.tr {S : Nat → Nat → Prop} {a b c : Mm} (h : Fr S a b) (h2 : Fr S b c) : Fr S a c := ⟨fun k i hk => (h2.1 k i hk).trans (h.1 k i hk), h2.2.trans h.2⟩
theorem Fr.st {S : Nat → Nat → Prop} {a b : Mm} (h : Fr S a b) {k i : Nat} (hk : S k i) (v : Int) : Fr S a (mst b k i v) := ⟨fun k' i' h' => by
  show (if k' = k ∧ i' = i then v else b.1 k' i') = _
  rw [if_neg (fun e => h' (by rw [e.1, e.2]; exact hk))]
  exact h.1 k' i' h', h.2⟩
theorem Fr.mono {S S' : Nat → Nat → Prop} {a b : Mm} (h : Fr S a b) (hs : ∀ k i, S k i → S' k i) : Fr S' a b := ⟨fun k i hk => h.1 k i (fun e => hk (hs k i e)), h.2⟩
/-- what reading a sum or a condition of text τ writes -/
def sS (τ k i : Nat) : Prop := (k = 0 ∧ (i = 3 ∨ i = 4 ∨ i = 5)) ∨ ((k = 2 ∨ k = 3) ∧ 520 * τ ≤ i ∧ i < 520 * τ + 520) ∨ (k = 4 ∧ i = τ)
def gM (m : Mm) (p : Nat) : Int := if (p : Int) < m.1 0 2 then m.1 1 p else -1
/-- the tape is read as text τ -/
def PT (g : Nat → Int) (N τ : Nat) (m : Mm) : Prop := Gok g N ∧ gM m = g ∧ m.1 0 2 = (N : Int) ∧ m.1 0 14 = (τ : Int) ∧ τ ≤ 4
theorem PT.fr {g : Nat → Int} {N τ : Nat} {m m2 : Mm} (h : PT g N τ m) (hF : Fr (sS τ) m m2) : PT g N τ m2 := by
  obtain ⟨h1, h2, h3, h4, h5⟩ := h
  have e2 := hF.1 0 2 (by unfold sS; omega)
  refine ⟨h1, ?_, e2.trans h3, (hF.1 0 14 (by unfold sS; omega)).trans h4, h5⟩
  rw [← h2]
  funext p
  unfold gM
  rw [e2, hF.1 1 p (by unfold sS; omega)]
/-- the row of tokens -/
def Row (m : Mm) (τ : Nat) (L : List Tok) : Prop := m.1 4 τ = (L.length : Int) ∧ ∀ i, i < L.length → (m.1 2 (520 * τ + i), m.1 3 (520 * τ + i)) = L.getD i (0, 0)
/-- reading, nothing wrong so far: the place a, so many within, these tokens -/
def PS (g : Nat → Int) (N τ : Nat) (m : Mm) (a d : Nat) (L : List Tok) : Prop := PT g N τ m ∧ (m.1 0 3 = (a : Int) ∧ m.1 0 4 = -1 ∧ m.1 0 5 = (d : Int)) ∧ a ≤ N ∧ Row m τ L
/-- something is wrong at q -/
def Bd (g : Nat → Int) (N τ : Nat) (m : Mm) (q B : Nat) : Prop := PT g N τ m ∧ (m.1 0 4 = (q : Int) ∧ q ≤ N) ∧ 0 ≤ m.1 4 τ ∧ m.1 4 τ ≤ (B : Int)
/-- what reading comes to -/
def PO (g : Nat → Int) (N τ d : Nat) (L : List Tok) (B : Nat) (x : PR) (m : Mm) : Prop := match x with
  | (q, none) => Bd g N τ m q B
  | (q, some c) => ∃ a, sk g a = q ∧ PS g N τ m a d (L ++ c)
theorem PO_b {g : Nat → Int} {N τ d : Nat} {L : List Tok} {B q : Nat} {m : Mm} {x : PR} (e : x = (q, none)) : PO g N τ d L B x m ↔ Bd g N τ m q B := by rw [e]; exact Iff.rfl
theorem PO_g {g : Nat → Int} {N τ d : Nat} {L : List Tok} {B q : Nat} {m : Mm} {x : PR} {c : List Tok} (e : x = (q, some c)) : PO g N τ d L B x m ↔ ∃ a, sk g a = q ∧ PS g N τ m a d (L ++ c) := by rw [e]; exact Iff.rfl
section
variable {g : Nat → Int} {N τ a d : Nat} {m : Mm} {L : List Tok}
theorem PS.G (h : PS g N τ m a d L) : Gok g N := h.1.1
theorem PS.at (h : PS g N τ m a d L) : m.1 0 3 = (a : Int) := h.2.1.1
theorem PS.wr (h : PS g N τ m a d L) : m.1 0 4 = -1 := h.2.1.2.1
theorem PS.dp (h : PS g N τ m a d L) : m.1 0 5 = (d : Int) := h.2.1.2.2
theorem PS.co (h : PS g N τ m a d L) : m.1 4 τ = (L.length : Int) := h.2.2.2.1
theorem PS.le (h : PS g N τ m a d L) : a ≤ N := h.2.2.1
theorem Row.off {m2 : Mm} (h : Row m τ L) (h4 : m2.1 4 τ = m.1 4 τ) (h2 : m2.1 2 = m.1 2) (h3 : m2.1 3 = m.1 3) : Row m2 τ L := ⟨h4.trans h.1, by rw [h2, h3]; exact h.2⟩
theorem Row.st0 (h : Row m τ L) (i : Nat) (v : Int) : Row (mst m 0 i v) τ L := h.off (mst_nk (by decide)) (funext fun _ => mst_nk (by decide)) (funext fun _ => mst_nk (by decide))
theorem PT.st (h : PT g N τ m) {k i : Nat} (hk : sS τ k i) (v : Int) : PT g N τ (mst m k i v) := h.fr (Fr.rf.st hk v)
theorem sS_at : sS τ 0 3 := Or.inl ⟨rfl, Or.inl rfl⟩
theorem sS_wr : sS τ 0 4 := Or.inl ⟨rfl, Or.inr (Or.inl rfl)⟩
theorem sS_dp : sS τ 0 5 := Or.inl ⟨rfl, Or.inr (Or.inr rfl)⟩
theorem sS_co : sS τ 4 τ := Or.inr (Or.inr ⟨rfl, rfl⟩)
theorem PS.to (h : PS g N τ m a d L) {b : Nat} (hb : b ≤ N) : PS g N τ (mst m 0 3 (b : Int)) b d L := ⟨h.1.st sS_at _, ⟨mst_eq, (mst_ni (by decide)).trans h.wr, (mst_ni (by decide)).trans h.dp⟩, hb, h.2.2.2.st0 _ _⟩
theorem PS.look (h : PS g N τ m a d L) : PS g N τ (mst m 0 3 (sk g a : Int)) (sk g a) d L := h.to (sk_le h.G h.le)
theorem PS.deep (h : PS g N τ m a d L) (e : Nat) : PS g N τ (mst m 0 5 (e : Int)) a e L := ⟨h.1.st sS_dp _, ⟨(mst_ni (by decide)).trans h.at, (mst_ni (by decide)).trans h.wr, mst_eq⟩, h.le, h.2.2.2.st0 _ _⟩
theorem PS.bad (h : PS g N τ m a d L) {B : Nat} (hB : L.length ≤ B) : Bd g N τ (mst m 0 4 (a : Int)) a B := ⟨h.1.st sS_wr _, ⟨mst_eq, h.le⟩, by rw [mst_nk (by decide), h.co]; omega, by rw [mst_nk (by decide), h.co]; omega⟩
theorem Bd.st {q B : Nat} (h : Bd g N τ m q B) {i : Nat} (hi : i = 3 ∨ i = 5) (v : Int) : Bd g N τ (mst m 0 i v) q B := ⟨h.1.st (Or.inl ⟨rfl, by omega⟩) v, ⟨(mst_ni (by omega)).trans h.2.1.1, h.2.1.2⟩, by rw [mst_nk (by decide)]; exact h.2.2.1, by rw [mst_nk (by decide)]; exact h.2.2.2⟩
theorem Bd.mono {q B B' : Nat} (h : Bd g N τ m q B) (hB : B ≤ B') : Bd g N τ m q B' := ⟨h.1, h.2.1, h.2.2.1, by have := h.2.2.2; omega⟩
/-- a token behind the row -/
def putM (m : Mm) (τ k : Nat) (c v : Int) : Mm := mst (mst (mst m 2 (520 * τ + k) c) 3 (520 * τ + k) v) 4 τ ((k : Int) + 1)
theorem Fr_put {μ : Mm} {k : Nat} {c v : Int} (h : Fr (sS τ) μ m) (hk : k < 520) : Fr (sS τ) μ (putM m τ k c v) := ((h.st (Or.inr (Or.inl ⟨Or.inl rfl, by omega, by omega⟩)) c).st (Or.inr (Or.inl ⟨Or.inr rfl, by omega, by omega⟩)) v).st sS_co _
theorem putM_0 {k i : Nat} {c v : Int} : (putM m τ k c v).1 0 i = m.1 0 i := by
  unfold putM
  rw [mst_nk (by decide), mst_nk (by decide), mst_nk (by decide)]
theorem PS.put (h : PS g N τ m a d L) (hL : L.length < 520) (c v : Int) : PS g N τ (putM m τ L.length c v) a d (L ++ [(c, v)]) := by
  refine ⟨h.1.fr (Fr_put Fr.rf hL), ⟨putM_0.trans h.at, putM_0.trans h.wr, putM_0.trans h.dp⟩, h.le, ?_, fun i hi => ?_⟩
  · unfold putM
    rw [mst_eq, List.length_append]
    rfl
  · simp only [List.length_append, List.length_cons, List.length_nil] at hi
    by_cases e : i = L.length
    · subst e
      unfold putM
      rw [mst_nk (by decide), mst_nk (by decide), mst_eq, mst_nk (by decide), mst_eq]
      simp
    · have := h.2.2.2.2 i (by omega)
      unfold putM
      rw [mst_nk (by decide), mst_nk (by decide), mst_ni (by omega), mst_nk (by decide), mst_ni (by omega), mst_nk (by decide), this]
      simp only [List.getD_eq_getElem?_getD]
      rw [List.getElem?_append_left (by omega)]
theorem Bd.put {q B k : Nat} (h : Bd g N τ m q B) (hk : m.1 4 τ = (k : Int)) (hB : k < 520) (c v : Int) : Bd g N τ (putM m τ k c v) q (B + 1) := by
  have h1 := h.2.2.2
  refine ⟨h.1.fr (Fr_put Fr.rf hB), ⟨putM_0.trans h.2.1.1, h.2.1.2⟩, ?_, ?_⟩
  · unfold putM; rw [mst_eq]; omega
  · unfold putM; rw [mst_eq]; omega
end
theorem mst_mst {m : Mm} {k i : Nat} {v w : Int} : mst (mst m k i v) k i w = mst m k i w := by
  unfold mst
  refine Prod.ext (funext fun k1 => funext fun i1 => ?_) rfl
  dsimp only
  split <;> rfl
theorem mst_self {m : Mm} {k i : Nat} {v : Int} (h : m.1 k i = v) : mst m k i v = m := by
  unfold mst
  refine Prod.ext (funext fun k1 => funext fun i1 => ?_) rfl
  dsimp only
  split
  · next e => rw [e.1, e.2, h]
  · rfl
