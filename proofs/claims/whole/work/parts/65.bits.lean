
/-! ## bits -/
def bt (x : Int32) (i : Nat) : Bool := x.toBitVec.getLsbD i
theorem b_ext {x y : Int32} (h : ∀ i, i < 32 → bt x i = bt y i) : x = y := Int32.toBitVec_inj.mp (BitVec.eq_of_getLsbD_eq (fun i hi => h i hi))
theorem b_or (x y : Int32) (i : Nat) : bt (x ||| y) i = (bt x i || bt y i) := by unfold bt; rw [Int32.toBitVec_or, BitVec.getLsbD_or]
theorem b_and (x y : Int32) (i : Nat) : bt (x &&& y) i = (bt x i && bt y i) := by unfold bt; rw [Int32.toBitVec_and, BitVec.getLsbD_and]
theorem b_xor (x y : Int32) (i : Nat) : bt (x ^^^ y) i = (bt x i ^^ bt y i) := by unfold bt; rw [Int32.toBitVec_xor, BitVec.getLsbD_xor]
theorem b_big {x : Int32} {i : Nat} (h : 32 ≤ i) : bt x i = false := BitVec.getLsbD_of_ge _ _ h
theorem b_255 (i : Nat) : bt 255 i = decide (i < 8) := by
  rcases Nat.lt_or_ge i 32 with h | h
  · exact (by decide +kernel : ∀ i, i < 32 → bt 255 i = decide (i < 8)) i h
  · rw [b_big h, decide_eq_false (by omega)]
theorem b_65535 (i : Nat) : bt 65535 i = decide (i < 16) := by
  rcases Nat.lt_or_ge i 32 with h | h
  · exact (by decide +kernel : ∀ i, i < 32 → bt 65535 i = decide (i < 16)) i h
  · rw [b_big h, decide_eq_false (by omega)]
theorem b_m1 : ∀ i, i < 32 → bt (-1) i = true := by decide +kernel
theorem b_0 (i : Nat) : bt 0 i = false := BitVec.getLsbD_zero
theorem s_l : ∀ n, n < 32 → ((nI n &&& 31).toBitVec.smod 32).toNat = n := by decide +kernel
theorem s_u : ∀ n, n < 32 → (((nI n).toUInt32 &&& Int32.toUInt32 31).toBitVec % 32).toNat = n := by decide +kernel
theorem b_shl (n : Nat) (hn : n < 32) (x : Int32) {i : Nat} (hi : i < 32) : bt (x <<< (nI n &&& 31)) i = (decide (n ≤ i) && bt x (i - n)) := by
  unfold bt
  rw [Int32.toBitVec_shiftLeft]
  show (x.toBitVec <<< ((nI n &&& 31).toBitVec.smod 32).toNat).getLsbD i = _
  rw [s_l n hn, BitVec.getLsbD_shiftLeft]
  rcases Nat.lt_or_ge i n with h | h
  · simp [h, Nat.not_le.mpr h]
  · simp [hi, h, Nat.not_lt.mpr h]
theorem b_ushr (n : Nat) (hn : n < 32) (x : Int32) (i : Nat) : bt ((x.toUInt32 >>> ((nI n).toUInt32 &&& Int32.toUInt32 31)).toInt32) i = bt x (n + i) := by
  show (x.toUInt32 >>> ((nI n).toUInt32 &&& Int32.toUInt32 31)).toBitVec.getLsbD i = x.toUInt32.toBitVec.getLsbD (n + i)
  rw [UInt32.toBitVec_shiftRight]
  show (x.toUInt32.toBitVec >>> (((nI n).toUInt32 &&& Int32.toUInt32 31).toBitVec % 32).toNat).getLsbD i = _
  rw [s_u n hn, BitVec.getLsbD_ushiftRight]
theorem b_sshr (n : Nat) (hn : n < 32) (x : Int32) {i : Nat} (hi : i < 32) : bt (x >>> (nI n &&& 31)) i = if n + i < 32 then bt x (n + i) else bt x 31 := by
  unfold bt
  rw [Int32.toBitVec_shiftRight]
  show (x.toBitVec.sshiftRight ((nI n &&& 31).toBitVec.smod 32).toNat).getLsbD i = _
  rw [s_l n hn, BitVec.getLsbD_sshiftRight, BitVec.msb_eq_getLsbD_last]
  simp [hi]
theorem iI_nI (n : Nat) : iI (n : Int) = nI n := Int32.ofInt_eq_ofNat
theorem bt_1 : ∀ i, i < 32 → bt 1 i = decide (i = 0) := by decide +kernel
theorem and1 (y : Int32) : y &&& 1 = 1 ↔ bt y 0 = true := by
  constructor
  · intro h
    have h2 := b_and y 1 0
    rw [h, bt_1 0 (by decide)] at h2
    simpa using h2.symm
  · intro h
    refine b_ext (fun i hi => ?_)
    rw [b_and, bt_1 i hi]
    by_cases e : i = 0
    · subst e; rw [h]; rfl
    · simp [e]
theorem hasB_bt {a : Int} {p : Nat} (hp : p < 32) : hasB a p = bt (iI a) p := by
  unfold hasB
  have h1 : bAnd (bShr a (p : Int)) 1 = 1 ↔ bt (iI a) p = true := by
    unfold bAnd
    rw [bShr_iI, iI_nI]
    have e1 : ((iI a >>> (nI p &&& 31)) &&& iI 1).toInt = 1 ↔ (iI a >>> (nI p &&& 31)) &&& 1 = 1 := by
      rw [← Int32.toInt_inj]
      exact Iff.rfl
    rw [e1, and1, b_sshr p hp _ (by decide), Nat.add_zero, if_pos hp]
  cases hb : bt (iI a) p
  · rw [decide_eq_false_iff_not, h1, hb]; simp
  · rw [decide_eq_true_eq, h1, hb]
theorem hasB_and {a b : Int} {p : Nat} (hp : p < 32) : hasB (bAnd a b) p = (hasB a p && hasB b p) := by rw [hasB_bt hp, hasB_bt hp, hasB_bt hp, bAnd_iI, b_and]
theorem hasB_or {a b : Int} {p : Nat} (hp : p < 32) : hasB (bOr a b) p = (hasB a p || hasB b p) := by rw [hasB_bt hp, hasB_bt hp, hasB_bt hp, bOr_iI, b_or]
theorem hasB_xor {a b : Int} {p : Nat} (hp : p < 32) : hasB (bXor a b) p = (hasB a p ^^ hasB b p) := by rw [hasB_bt hp, hasB_bt hp, hasB_bt hp, bXor_iI, b_xor]
theorem hasB_m1 {p : Nat} (hp : p < 32) : hasB (-1) p = true := by rw [hasB_bt hp]; exact b_m1 p hp
theorem hasB_0 {p : Nat} (hp : p < 32) : hasB 0 p = false := by rw [hasB_bt hp]; exact b_0 p
theorem hasB_not {a : Int} {p : Nat} (hp : p < 32) : hasB (bXor a (-1)) p = !hasB a p := by rw [hasB_xor hp, hasB_m1 hp]; simp
theorem hasB_shl {p k : Nat} (hp : p < 32) (hk : k < 32) : hasB (bShl 1 (k : Int)) p = decide (p = k) := by
  rw [hasB_bt hp, bShl_iI, iI_nI, b_shl k hk _ hp]
  by_cases h : k ≤ p
  · rw [show iI 1 = (1 : Int32) from rfl, bt_1 (p - k) (by omega), decide_eq_true h]
    simp only [Bool.true_and, decide_eq_decide]
    omega
  · rw [decide_eq_false h, decide_eq_false (by omega)]
    rfl
theorem all_bits : ∀ n : Fin 7, ∀ p : Fin 32, hasB (bShl 1 ((n.val : Nat) : Int) - 1) p.val = decide (p.val < n.val) := by decide +kernel
theorem hasB_all {n : Int} {p : Nat} (h1 : 0 ≤ n) (h2 : n ≤ 6) (hp : p < 32) : hasB (bShl 1 n - 1) p = decide ((p : Int) < n) := by
  have h := all_bits ⟨n.toNat, by omega⟩ ⟨p, hp⟩
  simp only [Int.toNat_of_nonneg h1] at h
  rw [h]
  simp only [decide_eq_decide]
  omega
theorem hasB_metO {f : Nat → Int} {p : Nat} : ∀ n, n ≤ 32 → p < 32 → hasB (metO f n) p = (decide (p < n) && decide (0 < f p))
  | 0, _, hp => by
    rw [show metO f 0 = 0 from rfl, hasB_0 hp]
    simp
  | n + 1, hn, hp => by
    rw [metO_s, hasB_or hp, hasB_metO n (by omega) hp]
    by_cases h : 0 < f n
    · rw [if_pos h, hasB_shl hp (by omega)]
      by_cases e : p = n
      · subst e; simp [h]
      · by_cases e2 : p < n
        · simp [e, e2, show p < n + 1 by omega]
        · simp [e, e2, show ¬ p < n + 1 by omega]
    · rw [if_neg h, hasB_0 hp]
      by_cases e : p = n
      · subst e; simp [h]
      · by_cases e2 : p < n
        · simp [e2, show p < n + 1 by omega]
        · simp [e2, show ¬ p < n + 1 by omega]
theorem hasB_zero {a : Int} (hR : InR a) (h : ∀ p, p < 32 → hasB a p = false) : a = 0 := by
  refine (iI_eq hR (inRlit 0)).mp (b_ext fun i hi => ?_)
  rw [← hasB_bt hi, h i hi]
  exact (b_0 i).symm
theorem hasB_ext {a b : Int} (hR : InR a) (hR2 : InR b) (h : ∀ p, p < 32 → hasB a p = hasB b p) : a = b := by
  refine (iI_eq hR hR2).mp (b_ext fun i hi => ?_)
  rw [← hasB_bt hi, h i hi, hasB_bt hi]
theorem small_bits : ∀ a : Fin 64, ∀ p : Fin 32, 6 ≤ p.val → hasB ((a.val : Nat) : Int) p.val = false := by decide +kernel
theorem hasB_hi {a : Int} {p : Nat} (h1 : 0 ≤ a) (h2 : a ≤ 63) (hp : 6 ≤ p) (hp2 : p < 32) : hasB a p = false := by
  have h := small_bits ⟨a.toNat, by omega⟩ ⟨p, hp2⟩ hp
  simpa only [Int.toNat_of_nonneg h1] using h
/-! ## the best of some -/
theorem best_none {ok : Nat → Bool} {val : Nat → Int} : ∀ {n : Nat}, best ok val n = -1 ↔ ∀ p, p < n → ok p = false
  | 0 => ⟨fun _ p hp => absurd hp (Nat.not_lt_zero _), fun _ => rfl⟩
  | n + 1 => by
    have ih := best_none (ok := ok) (val := val) (n := n)
    rw [best_succ]
    constructor
    · intro h
      split at h
      · omega
      · next hc =>
        intro p hp
        have hall := ih.mp h
        by_cases e : p = n
        · subst e
          cases hk : ok p
          · rfl
          · exact absurd ⟨hk, Or.inl h⟩ hc
        · exact hall p (by omega)
    · intro h
      rw [if_neg (fun q => by rw [h n (by omega)] at q; exact absurd q.1 (by decide))]
      exact ih.mpr (fun p hp => h p (by omega))
theorem best_cut {ok : Nat → Bool} {val : Nat → Int} {n : Nat} : ∀ c, (∀ p, n ≤ p → p < n + c → ok p = false) → best ok val (n + c) = best ok val n
  | 0, _ => rfl
  | c + 1, h => by
    rw [show n + (c + 1) = n + c + 1 from rfl, best_succ, if_neg (fun q => by rw [h (n + c) (by omega) (by omega)] at q; exact absurd q.1 (by decide))]
    exact best_cut c (fun p h1 h2 => h p h1 (by omega))
theorem best_cut' {ok : Nat → Bool} {val : Nat → Int} {n m : Nat} (hnm : n ≤ m) (h : ∀ p, n ≤ p → p < m → ok p = false) : best ok val m = best ok val n := by
  have := best_cut (ok := ok) (val := val) (n := n) (m - n) (fun p h1 h2 => h p h1 (by omega))
  rwa [show n + (m - n) = m by omega] at this
/-- only the values of those who may be matter -/
theorem best_ok {ok : Nat → Bool} {val : Nat → Int} : ∀ (n : Nat), best ok val n = -1 ∨ ok (best ok val n).toNat = true
  | 0 => Or.inl rfl
  | n + 1 => by
    rw [best_succ]
    split
    · next h => right; rw [show ((n : Int)).toNat = n from rfl]; exact h.1
    · exact best_ok n
theorem best_val {ok ok' : Nat → Bool} {val val' : Nat → Int} : ∀ (n : Nat), (∀ p, p < n → ok p = ok' p) → (∀ p, p < n → ok p = true → val p = val' p) → best ok val n = best ok' val' n
  | 0, _, _ => rfl
  | n + 1, h1, h2 => by
    have ih := best_val n (fun p hp => h1 p (by omega)) (fun p hp => h2 p (by omega))
    rw [best_succ, best_succ, ← ih, ← h1 n (by omega)]
    by_cases hk : ok n = true
    · rw [h2 n (by omega) hk]
      rcases best_ok (ok := ok) (val := val) n with h | h
      · rw [h]; simp
      · rcases best_rng ok val n with h' | h'
        · rw [h']; simp
        · rw [h2 (best ok val n).toNat (by omega) h]
    · rw [if_neg (fun q => hk q.1), if_neg (fun q => hk q.1)]
