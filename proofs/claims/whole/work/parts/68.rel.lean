/-! ## what ties the class's memory to the reference's -/
theorem okR_of {cd vl : Nat → Int} : ∀ (ts : List Tok) (k n : Nat), (∀ i, i < ts.length → (cd (k + i), vl (k + i)) = ts.getD i (0, 0)) → okL ts n 1 → okR cd vl ts.length k n
  | [], _, _, _, h => h
  | t :: ts, k, n, h, ho => by
    obtain ⟨h1, h2, h3, h4, h5⟩ := ho
    have e0 : (cd k, vl k) = t := h 0 (by simp)
    have e1 : cd k = t.1 := congrArg Prod.fst e0
    rw [List.length_cons, okR, e0, e1]
    refine ⟨h1, h2, h3, h4, okR_of ts (k + 1) _ (fun i hi => ?_) h5⟩
    have := h (i + 1) (by simp only [List.length_cons]; omega)
    rw [show k + 1 + i = k + (i + 1) by omega, this]
    simp
theorem evR_of {cd vl lt : Nat → Int} : ∀ (ts : List Tok) (k : Nat) (s : List Int), (∀ i, i < ts.length → (cd (k + i), vl (k + i)) = ts.getD i (0, 0)) → evR cd vl lt ts.length k s = evs lt ts s
  | [], _, _, _ => rfl
  | t :: ts, k, s, h => by
    have e0 : (cd k, vl k) = t := h 0 (by simp)
    rw [List.length_cons, evR, e0]
    refine (evR_of ts (k + 1) _ (fun i hi => ?_)).trans rfl
    have := h (i + 1) (by simp only [List.length_cons]; omega)
    rw [show k + 1 + i = k + (i + 1) by omega, this]
    simp
/-- the reference's law j -/
def LawR (ν : Mm) (j : Nat) (l : List Cl) : Prop := CF ν j l ∧ Row ν j (cat l) ∧ (cat l).length ≤ 520 ∧ l.length ≤ 140 ∧ ∀ c ∈ l, WC c
theorem Bln.ne {t : List Tok} (h : Bln t) : t ≠ [] := fun e => by
  subst e
  obtain ⟨v, -, h1, -⟩ := h (fun _ => 0) []
  simp [evs] at h1
theorem cat_cons (c : Cl) (l : List Cl) : cat (c :: l) = (c.1.getD [] ++ c.2) ++ cat l := by unfold cat; rw [List.flatMap_cons]
theorem cat_split {l : List Cl} {i : Nat} {c : Cl} (h : l[i]? = some c) : ∃ r, cat l = cat (l.take i) ++ (c.1.getD [] ++ (c.2 ++ r)) := by
  have hi : i < l.length := (List.getElem?_eq_some_iff.mp h).1
  refine ⟨cat (l.drop (i + 1)), ?_⟩
  have e : l = l.take i ++ (c :: l.drop (i + 1)) := by
    have h2 : l[i] = c := (List.getElem?_eq_some_iff.mp h).2
    rw [← h2, ← List.drop_eq_getElem_cons hi, List.take_append_drop]
  have e2 : cat (l.take i ++ (c :: l.drop (i + 1))) = cat (l.take i) ++ cat (c :: l.drop (i + 1)) := by unfold cat; rw [List.flatMap_append]
  rw [← e, cat_cons] at e2
  rw [e2, List.append_assoc]
theorem getD_mid {α : Type} {a b c : List α} {x : α} {i : Nat} (h : i < b.length) : (a ++ (b ++ c)).getD (a.length + i) x = b.getD i x := by
  simp only [List.getD_eq_getElem?_getD]
  rw [List.getElem?_append_right (by omega), show a.length + i - a.length = i by omega, List.getElem?_append_left h]
theorem LawR.at {ν : Mm} {j : Nat} {l : List Cl} (h : LawR ν j l) {i : Nat} {c : Cl} (hc : l[i]? = some c) :
    WC c ∧ (ν.1 6 (140 * j + i) = ((cat (l.take i)).length : Int) ∧ ν.1 7 (140 * j + i) = ((cat (l.take i)).length : Int) + ((c.1.getD []).length : Int) ∧ ν.1 8 (140 * j + i) = ((cat (l.take i)).length : Int) + ((c.1.getD []).length : Int) + (c.2.length : Int)) ∧
    (cat (l.take i)).length + (c.1.getD []).length + c.2.length ≤ 520 ∧
    (∀ x, x < (c.1.getD []).length → (ν.1 2 (520 * j + (cat (l.take i)).length + x), ν.1 3 (520 * j + (cat (l.take i)).length + x)) = (c.1.getD []).getD x (0, 0)) ∧
    (∀ x, x < c.2.length → (ν.1 2 (520 * j + ((cat (l.take i)).length + (c.1.getD []).length) + x), ν.1 3 (520 * j + ((cat (l.take i)).length + (c.1.getD []).length) + x)) = c.2.getD x (0, 0)) := by
  obtain ⟨h1, h2, h3, h4, h5⟩ := h
  obtain ⟨r, hr⟩ := cat_split hc
  have hlen : (cat l).length = (cat (l.take i)).length + ((c.1.getD []).length + (c.2.length + r.length)) := by rw [hr]; simp only [List.length_append]
  refine ⟨h5 c (List.mem_of_getElem? hc), h1.2 i c hc, by omega, fun x hx => ?_, fun x hx => ?_⟩
  · have := h2.2 ((cat (l.take i)).length + x) (by omega)
    rw [show 520 * j + (cat (l.take i)).length + x = 520 * j + ((cat (l.take i)).length + x) by omega, this, hr, getD_mid hx]
  · have := h2.2 ((cat (l.take i)).length + ((c.1.getD []).length + x)) (by omega)
    rw [show 520 * j + ((cat (l.take i)).length + (c.1.getD []).length) + x = 520 * j + ((cat (l.take i)).length + ((c.1.getD []).length + x)) by omega, this, hr]
    rw [← List.append_assoc, show (cat (l.take i)).length + ((c.1.getD []).length + x) = (cat (l.take i) ++ c.1.getD []).length + x by rw [List.length_append]; omega, getD_mid hx]
theorem LawR.V {ν : Mm} {j : Nat} {l : List Cl} (h : LawR ν j l) : LawV ν j := by
  have h5 := h.1.1
  refine ⟨by rw [h5]; have := h.2.2.2.1; omega, fun q hq1 hq2 => ?_⟩
  obtain ⟨i, rfl⟩ : ∃ i, q = 140 * j + i := ⟨q - 140 * j, by omega⟩
  have hi : i < l.length := by omega
  obtain ⟨hW, ⟨e6, e7, e8⟩, hle, ht, hs⟩ := h.at (i := i) (c := l[i]) (List.getElem?_eq_getElem hi)
  rw [e6, e7, e8]
  have n1 : (((cat (l.take i)).length : Int) + ((l[i].1.getD []).length : Int)).toNat = (cat (l.take i)).length + (l[i].1.getD []).length := by omega
  have n2 : (((cat (l.take i)).length : Int) + ((l[i].1.getD []).length : Int) + (l[i].2.length : Int)).toNat = (cat (l.take i)).length + (l[i].1.getD []).length + l[i].2.length := by omega
  rw [n1, n2, Int.toNat_natCast]
  refine ⟨by omega, by omega, by omega, by omega, fun hne => ?_, ?_⟩
  · rw [show (cat (l.take i)).length + (l[i].1.getD []).length - (cat (l.take i)).length = (l[i].1.getD []).length by omega]
    cases e : l[i].1 with
    | none => rw [e] at hne; simp at hne
    | some t =>
      rw [e] at ht
      exact okR_of t _ 0 ht ((hW.1 t e).1 0 (by decide))
  · rw [show (cat (l.take i)).length + (l[i].1.getD []).length + l[i].2.length - ((cat (l.take i)).length + (l[i].1.getD []).length) = l[i].2.length by omega]
    exact okR_of _ _ 0 hs (hW.2.1 0 (by decide))
theorem LawR.worth {ν : Mm} {j : Nat} {l : List Cl} (h : LawR ν j l) (lt : Nat → Int) : ∀ (s : List Cl) (i : Nat), l.drop i = s → worthM ν j lt s.length (140 * j + i) = worthL lt s
  | [], _, _ => rfl
  | c :: s, i, hs => by
    have hi : i < l.length := by
      have := congrArg List.length hs
      simp only [List.length_drop, List.length_cons] at this
      omega
    have hc : l[i]? = some c := by
      have := congrArg (fun x => x[0]?) hs
      simpa [List.getElem?_drop] using this
    have hd : l.drop (i + 1) = s := by
      have := congrArg List.tail hs
      simpa [List.tail_drop] using this
    obtain ⟨hW, ⟨e6, e7, e8⟩, hle, ht, hs2⟩ := h.at hc
    have n1 : (((cat (l.take i)).length : Int) + ((c.1.getD []).length : Int)).toNat = (cat (l.take i)).length + (c.1.getD []).length := by omega
    have n2 : (((cat (l.take i)).length : Int) + ((c.1.getD []).length : Int) + (c.2.length : Int)).toNat = (cat (l.take i)).length + (c.1.getD []).length + c.2.length := by omega
    rw [List.length_cons, worthM, e6, e7, e8, n1, n2, Int.toNat_natCast]
    rw [show (cat (l.take i)).length + (c.1.getD []).length + c.2.length - ((cat (l.take i)).length + (c.1.getD []).length) = c.2.length by omega, evR_of _ _ _ hs2, show 140 * j + i + 1 = 140 * j + (i + 1) by omega, LawR.worth h lt s (i + 1) hd]
    rw [show (cat (l.take i)).length + (c.1.getD []).length - (cat (l.take i)).length = (c.1.getD []).length by omega, evR_of _ _ _ ht]
    cases c with
    | mk c1 c2 =>
      cases c1 with
      | none =>
        rw [worthL_n, if_pos (Or.inl (by simp))]
      | some t =>
        have hne := ((hW.1 t rfl).2).ne
        have hlen : t.length ≠ 0 := fun e => hne (List.length_eq_zero_iff.mp e)
        by_cases hv : (evs lt t []).headD 0 = 0
        · rw [worthL_f hv, if_neg]
          intro q
          rcases q with q | q
          · simp only [Option.getD_some] at q; omega
          · exact q hv
        · rw [worthL_t hv]
          exact if_pos (Or.inr hv)
theorem LawR.w {ν : Mm} {j : Nat} {l : List Cl} (h : LawR ν j l) (lt : Nat → Int) : worthM ν j lt (ν.1 5 j).toNat (140 * j) = worthL lt l := by
  rw [h.1.1, Int.toNat_natCast]
  exact h.worth lt l 0 (by simp)
/-- a state's row of the class, and the reference's -/
def SR (f g : Nat → Int) : Prop :=
  (f 0 = g 29 ∧ f 1 = g 30 ∧ f 2 = g 32 ∧ f 3 = g 33 ∧ f 4 = g 34 ∧ f 5 = g 35 ∧ f 6 = g 36 ∧ f 7 = g 31) ∧ (∀ p, p < 6 → f (9 + p) = g p) ∧ (∀ p t, p < 6 → t < 2 → f (15 + 6 * t + p) = g (6 + 2 * p + t)) ∧ (∀ p, p < 6 → f (27 + p) = g (18 + p)) ∧ (∀ t, t < 5 → f (33 + t) = g (24 + t))
theorem SR.sc {f g : Nat → Int} (h : SR f g) : f 0 = g 29 ∧ f 1 = g 30 ∧ f 2 = g 32 ∧ f 3 = g 33 ∧ f 4 = g 34 ∧ f 5 = g 35 ∧ f 6 = g 36 ∧ f 7 = g 31 := h.1
theorem SR.aw {f g : Nat → Int} (h : SR f g) : f 7 = g 31 := h.1.2.2.2.2.2.2.2
theorem SR.yr {f g : Nat → Int} (h : SR f g) : f 6 = g 36 := h.1.2.2.2.2.2.2.1
theorem SR.met {f g : Nat → Int} (h : SR f g) {p : Nat} (hp : p < 6) : f (9 + p) = g p := h.2.1 p hp
theorem SR.fei {f g : Nat → Int} (h : SR f g) {p t : Nat} (hp : p < 6) (ht : t < 2) : f (15 + 6 * t + p) = g (6 + 2 * p + t) := h.2.2.1 p t hp ht
theorem SR.cha {f g : Nat → Int} (h : SR f g) {p : Nat} (hp : p < 6) : f (27 + p) = g (18 + p) := h.2.2.2.1 p hp
theorem SR.ask {f g : Nat → Int} (h : SR f g) {t : Nat} (ht : t < 5) : f (33 + t) = g (24 + t) := h.2.2.2.2 t ht
/-- the town of the class, and the reference's -/
def TR (μ ν : Mm) : Prop := (μ.1 25 1 = ν.1 0 25 ∧ μ.1 25 2 = ν.1 0 26) ∧ (∀ k, k < 4 → μ.1 26 k = ν.1 14 k) ∧ (∀ p k : Nat, (p : Int) < ν.1 0 25 → k < 4 → μ.1 26 (4 + 4 * p + k) = ν.1 15 (4 * p + k)) ∧ (∀ t k : Nat, (t : Int) < ν.1 0 26 → k < 3 → μ.1 26 (28 + 4 * t + k) = ν.1 16 (3 * t + k))
theorem TR.n {μ ν : Mm} (h : TR μ ν) : μ.1 25 1 = ν.1 0 25 := h.1.1
theorem TR.t {μ ν : Mm} (h : TR μ ν) : μ.1 25 2 = ν.1 0 26 := h.1.2
theorem TR.ru {μ ν : Mm} (h : TR μ ν) {k : Nat} (hk : k < 4) : μ.1 26 k = ν.1 14 k := h.2.1 k hk
theorem TR.pe {μ ν : Mm} (h : TR μ ν) {p k : Nat} (hp : (p : Int) < ν.1 0 25) (hk : k < 4) : μ.1 26 (4 + 4 * p + k) = ν.1 15 (4 * p + k) := h.2.2.1 p k hp hk
theorem TR.tr {μ ν : Mm} (h : TR μ ν) {t k : Nat} (ht : (t : Int) < ν.1 0 26) (hk : k < 3) : μ.1 26 (28 + 4 * t + k) = ν.1 16 (3 * t + k) := h.2.2.2 t k ht hk
/-- the law that holds -/
def HR (μ ν : Mm) : Prop := (μ.2.2 = none ∧ ν.1 0 29 = -1) ∨ ∃ (j : Nat) (l : List Cl), j < 4 ∧ ν.1 0 29 = (j : Int) ∧ μ.2.2 = some (13 + 3 * j) ∧ LawC μ (13 + 3 * j) l ∧ LawR ν j l
def Sb (s : Nat) : Prop := s = 27 ∨ s = 29 ∨ s = 78
theorem Sb.ob {s : Nat} (h : Sb s) : Sob s := by
  rcases h with rfl | rfl | rfl
  · exact sob27
  · exact sob29
  · exact sob78
/-- judge and town and law and the state at cell s are those of ν -/
def JR (μ : Mm) (s : Nat) (ν : Mm) : Prop := Sb s ∧ MG ν ∧ TR μ ν ∧ HR μ ν ∧ SR (μ.1 (s + 1)) (ν.1 17)
/-- what reckoning a liking writes; what weighing writes -/
def jA (k _i : Nat) : Prop := k = 74 ∨ k = 15 ∨ k = 18 ∨ k = 21 ∨ k = 24
def jS (k _i : Nat) : Prop := k = 75 ∨ k = 74 ∨ k = 15 ∨ k = 18 ∨ k = 21 ∨ k = 24
theorem Fr.fn {S : Nat → Nat → Prop} {μ m : Mm} (h : Fr S μ m) {k : Nat} (hk : ∀ i, ¬ S k i) : m.1 k = μ.1 k := funext (fun i => h.1 k i (hk i))
theorem LawC.fr {μ m : Mm} {k : Nat} {l : List Cl} (h : LawC μ k l) (h1 : m.1 k 2 = μ.1 k 2) (h2 : m.1 (k + 1) = μ.1 (k + 1)) : LawC m k l := by
  unfold LawC at *
  rw [h1, h2]
  exact h
theorem TR.fr {μ m ν : Mm} (h : TR μ ν) (h1 : m.1 25 = μ.1 25) (h2 : m.1 26 = μ.1 26) : TR m ν := by
  unfold TR at *
  rw [h1, h2]
  exact h
theorem HR.fr {S : Nat → Nat → Prop} {μ m ν : Mm} (h : HR μ ν) (hF : Fr S μ m) (hS : ∀ j i, j < 4 → ¬ S (13 + 3 * j) i ∧ ¬ S (13 + 3 * j + 1) i) : HR m ν := by
  rcases h with ⟨h1, h2⟩ | ⟨j, l, hj, h1, h2, h3, h4⟩
  · exact Or.inl ⟨by rw [hF.2]; exact h1, h2⟩
  · exact Or.inr ⟨j, l, hj, h1, by rw [hF.2]; exact h2, h3.fr (hF.1 _ _ (hS j 2 hj).1) (hF.fn (fun i => (hS j i hj).2)), h4⟩
theorem JR.fr {S : Nat → Nat → Prop} {μ m ν : Mm} {s : Nat} (h : JR μ s ν) (hF : Fr S μ m) (hS : ∀ k i, S k i → jS k i ∨ k ≥ 79 ∨ k = 77) (hs : ∀ i, ¬ S (s + 1) i) : JR m s ν := by
  obtain ⟨h1, h2, h3, h4, h5⟩ := h
  have n : ∀ k i, ¬ (jS k i ∨ k ≥ 79 ∨ k = 77) → ¬ S k i := fun k i q e => q (hS k i e)
  refine ⟨h1, h2, h3.fr (hF.fn (fun i => n _ _ (by unfold jS; omega))) (hF.fn (fun i => n _ _ (by unfold jS; omega))), h4.fr hF (fun j i hj => ⟨n _ _ (by unfold jS; omega), n _ _ (by unfold jS; omega)⟩), ?_⟩
  rw [hF.fn hs]
  exact h5
theorem Sb.nj {s : Nat} (h : Sb s) (i : Nat) : ¬ jS (s + 1) i := by unfold Sb at h; unfold jS; omega
theorem JR.fj {μ m ν : Mm} {s : Nat} (h : JR μ s ν) (hF : Fr jS μ m) : JR m s ν := h.fr hF (fun _ _ e => Or.inl e) h.1.nj
theorem jA_S {k i : Nat} (h : jA k i) : jS k i := Or.inr h
theorem JR.fa {μ m ν : Mm} {s : Nat} (h : JR μ s ν) (hF : Fr jA μ m) : JR m s ν := h.fj (hF.mono (fun _ _ e => jA_S e))
/-- those in town; those he may pick -/
def inT (ν : Mm) : Int := bAnd (bShl 1 (ν.1 0 25) - 1) (bXor (ν.1 17 31) (-1))
def canT (ν : Mm) : Int := bAnd (inT ν) (metO (ν.1 17) 6)
theorem hasB_inT {ν : Mm} (h : MB ν) {p : Nat} (hp : p < 32) : hasB (inT ν) p = (decide ((p : Int) < ν.1 0 25) && !hasB (ν.1 17 31) p) := by
  unfold inT
  rw [hasB_and hp, hasB_all h.np.1 h.np.2 hp, hasB_not hp]
theorem hasB_canT {ν : Mm} (h : MB ν) {p : Nat} (hp : p < 32) : hasB (canT ν) p = (decide ((p : Int) < ν.1 0 25) && mayM ν p) := by
  unfold canT
  have := h.np
  rw [hasB_and hp, hasB_inT h hp, hasB_metO 6 (by decide) hp]
  unfold mayM
  by_cases e : (p : Int) < ν.1 0 25
  · simp [e, show p < 6 by omega]
  · simp [e]
theorem metO_congr {f g : Nat → Int} : ∀ n, (∀ p, p < n → f p = g p) → metO f n = metO g n
  | 0, _ => rfl
  | n + 1, h => by rw [metO_s, metO_s, metO_congr n (fun p hp => h p (by omega)), h n (by omega)]
theorem appealM_R (ν : Mm) (p : Nat) : -99 ≤ appealM ν p ∧ appealM ν p ≤ 99 := clamp_R
/-- whom he picks, by the class's reckoning -/
theorem pick_best {ν : Mm} (h : MB ν) {w : Nat → Int} (hw : ∀ p, p < 6 → hasB (canT ν) p = true → w p = appealM ν p) : (if best (fun p => hasB (canT ν) p) w 6 = -1 then best (fun p => hasB (inT ν) p) (fun p => ν.1 15 (4 * p + 2)) (ν.1 0 25).toNat else best (fun p => hasB (canT ν) p) w 6) = pickM ν (ν.1 0 25).toNat := by
  have hn := h.np
  have e1 : best (fun p => hasB (canT ν) p) w 6 = himM ν (ν.1 0 25).toNat := by
    have a1 : best (fun p => hasB (canT ν) p) w 6 = best (fun p => hasB (canT ν) p) w (ν.1 0 25).toNat := best_cut' (by omega) (fun p h1 h2 => by
      rw [hasB_canT h (by omega)]
      simp [show ¬ (p : Int) < ν.1 0 25 by omega])
    rw [a1]
    refine best_val _ (fun p hp => ?_) (fun p hp ho => hw p (by omega) ho)
    rw [hasB_canT h (by omega)]
    simp [show (p : Int) < ν.1 0 25 by omega]
  have e2 : best (fun p => hasB (inT ν) p) (fun p => ν.1 15 (4 * p + 2)) (ν.1 0 25).toNat = restM ν (ν.1 0 25).toNat := best_congr _ (fun p hp => by
    rw [hasB_inT h (by omega)]
    simp [show (p : Int) < ν.1 0 25 by omega]) (fun _ _ => rfl)
  rw [e1, e2]
  rfl
