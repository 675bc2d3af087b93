
/-! ## clauses and laws, as the reference reads them -/
def cat (l : List Cl) : List Tok := l.flatMap (fun c => c.1.getD [] ++ c.2)
theorem cat_app (l : List Cl) (c : Cl) : cat (l ++ [c]) = cat l ++ (c.1.getD [] ++ c.2) := by unfold cat; rw [List.flatMap_append]; simp
/-- what reading a clause writes -/
def sC (τ j k i : Nat) : Prop := sS τ k i ∨ (k = 5 ∧ i = τ) ∨ ((k = 6 ∨ k = 7 ∨ k = 8) ∧ i = 140 * τ + j)
/-- what reading a law writes -/
def sL (τ k i : Nat) : Prop := sS τ k i ∨ (k = 5 ∧ i = τ) ∨ ((k = 6 ∨ k = 7 ∨ k = 8) ∧ 140 * τ ≤ i ∧ i < 140 * τ + 140) ∨ (k = 0 ∧ i = 14)
theorem sC_L {τ j k i : Nat} (hj : j < 140) (h : sC τ j k i) : sL τ k i := by
  rcases h with h | h | h
  · exact Or.inl h
  · exact Or.inr (Or.inl h)
  · exact Or.inr (Or.inr (Or.inl ⟨h.1, by omega, by omega⟩))
theorem Bd.cast {g : Nat → Int} {N τ : Nat} {m m2 : Mm} {q B : Nat} (e : m2 = m) (h : Bd g N τ m q B) : Bd g N τ m2 q B := by rw [e]; exact h
theorem mst_at {m m0 : Mm} {k i : Nat} {v : Int} (e : m = mst m0 k i v) : m.1 k i = v := by rw [e]; exact mst_eq
theorem mst_of {m m0 : Mm} {k k2 i i2 : Nat} {v : Int} (e : m = mst m0 k2 i2 v) (h : k ≠ k2) : m.1 k i = m0.1 k i := by rw [e]; exact mst_nk h
theorem PT.of {g : Nat → Int} {N τ : Nat} {m m2 : Mm} (h : PT g N τ m) (e2 : m2.1 0 2 = m.1 0 2) (e14 : m2.1 0 14 = m.1 0 14) (e1 : m2.1 1 = m.1 1) : PT g N τ m2 := by
  obtain ⟨h1, h2, h3, h4, h5⟩ := h
  refine ⟨h1, ?_, e2.trans h3, e14.trans h4, h5⟩
  rw [← h2]
  funext p
  unfold gM
  rw [e2, e1]
theorem PT.off {g : Nat → Int} {N τ : Nat} {m : Mm} (h : PT g N τ m) {k i : Nat} {v : Int} (hk : k = 5 ∨ k = 6 ∨ k = 7 ∨ k = 8) : PT g N τ (mst m k i v) := h.of (mst_nk (by omega)) (mst_nk (by omega)) (funext fun _ => mst_nk (by omega))
theorem PS.off {g : Nat → Int} {N τ : Nat} {m : Mm} {a d : Nat} {L : List Tok} (h : PS g N τ m a d L) {k i : Nat} {v : Int} (hk : k = 5 ∨ k = 6 ∨ k = 7 ∨ k = 8) : PS g N τ (mst m k i v) a d L := ⟨h.1.off hk, ⟨(mst_nk (by omega)).trans h.at, (mst_nk (by omega)).trans h.wr, (mst_nk (by omega)).trans h.dp⟩, h.le, h.2.2.2.off (mst_nk (by omega)) (funext fun _ => mst_nk (by omega)) (funext fun _ => mst_nk (by omega))⟩
theorem Bd.off {g : Nat → Int} {N τ : Nat} {m : Mm} {q B : Nat} (h : Bd g N τ m q B) {k i : Nat} {v : Int} (hk : k = 5 ∨ k = 6 ∨ k = 7 ∨ k = 8) : Bd g N τ (mst m k i v) q B := ⟨h.1.off hk, ⟨(mst_nk (by omega)).trans h.2.1.1, h.2.1.2⟩, by rw [mst_nk (by omega)]; exact h.2.2.1, by rw [mst_nk (by omega)]; exact h.2.2.2⟩
/-- the rows of clauses: where each one's condition and sum begin and end -/
def CF (m : Mm) (τ : Nat) (l : List Cl) : Prop := m.1 5 τ = (l.length : Int) ∧ ∀ j c, l[j]? = some c → m.1 6 (140 * τ + j) = ((cat (l.take j)).length : Int) ∧ m.1 7 (140 * τ + j) = ((cat (l.take j)).length : Int) + ((c.1.getD []).length : Int) ∧ m.1 8 (140 * τ + j) = ((cat (l.take j)).length : Int) + ((c.1.getD []).length : Int) + (c.2.length : Int)
theorem CF.ext {μ m : Mm} {τ : Nat} {l : List Cl} {c : Cl} (h : CF μ τ l) (hF : Fr (sC τ l.length) μ m) (h5 : m.1 5 τ = (l.length : Int) + 1) (h6 : m.1 6 (140 * τ + l.length) = ((cat l).length : Int)) (h7 : m.1 7 (140 * τ + l.length) = ((cat l).length : Int) + ((c.1.getD []).length : Int)) (h8 : m.1 8 (140 * τ + l.length) = ((cat l).length : Int) + ((c.1.getD []).length : Int) + (c.2.length : Int)) : CF m τ (l ++ [c]) := by
  refine ⟨by rw [h5, List.length_append]; rfl, fun j c' e => ?_⟩
  by_cases ej : j = l.length
  · subst ej
    rw [List.getElem?_append_right (by omega)] at e
    simp at e
    subst e
    rw [List.take_left]
    exact ⟨h6, h7, h8⟩
  · have hj : j < l.length := by
      have := (List.getElem?_eq_some_iff.mp e).1
      simp at this
      omega
    rw [List.getElem?_append_left hj] at e
    rw [List.take_append_of_le_length (by omega)]
    have h1 := h.2 j c' e
    rw [hF.1 6 _ (by unfold sC sS; omega), hF.1 7 _ (by unfold sC sS; omega), hF.1 8 _ (by unfold sC sS; omega)]
    exact h1
def BdL (g : Nat → Int) (N τ : Nat) (m : Mm) (q : Nat) : Prop := PT g N τ m ∧ m.1 0 4 = (q : Int) ∧ q ≤ N
def ClO (g : Nat → Int) (N τ : Nat) (l : List Cl) (x : PC1) (m : Mm) : Prop := match x with
  | (q, none) => BdL g N τ m q
  | (q, some c) => ∃ a, sk g a = q ∧ PS g N τ m a 0 (cat (l ++ [c])) ∧ CF m τ (l ++ [c])
theorem ClO_b {g : Nat → Int} {N τ q B : Nat} {l : List Cl} {m : Mm} {x : PC1} (e : x = (q, none)) (h : Bd g N τ m q B) : ClO g N τ l x m := by rw [e]; exact ⟨h.1, h.2.1⟩
theorem ClO_g {g : Nat → Int} {N τ q a : Nat} {l : List Cl} {c : Cl} {m : Mm} {x : PC1} (e : x = (q, some c)) (h1 : sk g a = q) (h2 : PS g N τ m a 0 (cat (l ++ [c]))) (h3 : CF m τ (l ++ [c])) : ClO g N τ l x m := by rw [e]; exact ⟨a, h1, h2, h3⟩
section
variable {g : Nat → Int} {p q p1 p2 : Nat}
theorem pCl_y (h : g p ≠ 121) : pCl g p = (p, none) := by unfold pCl; rw [if_pos h]
theorem pCl_c (h : g p = 121) (h2 : g (sk g (p + 1)) ≠ 58) : pCl g p = (sk g (p + 1), none) := by unfold pCl; rw [if_neg (fun e => e h), if_pos h2]
theorem pCl_t (h : g p = 121) (h1 : sk g (p + 1) = p1) (h2 : g p1 = 58) (h3 : sk g (p1 + 1) = p2) (h4 : g p2 = 33 ∨ g p2 = 40) : pCl g p = clB g (pCond g 6 p2) := by subst h1; subst h3; unfold pCl; rw [if_neg (fun e => e h), if_neg (fun e => e h2), if_pos h4]
theorem pCl_s (h : g p = 121) (h1 : sk g (p + 1) = p1) (h2 : g p1 = 58) (h3 : sk g (p1 + 1) = p2) (h4 : g p2 ≠ 33) (h5 : g p2 ≠ 40) : pCl g p = (match pSum g 6 p2 with
    | (q, none) => (q, none)
    | (q, some c) => if sepR (g q) = none then (q, some (none, c)) else clB g (condFrom g 6 (pCmp g 6 q c))) := by subst h1; subst h3; unfold pCl; rw [if_neg (fun e => e h), if_neg (fun e => e h2), if_neg (fun e => e.elim h4 h5)]; generalize pSum g 6 (sk g (sk g (p + 1) + 1)) = x; rcases x with ⟨q, _ | c⟩ <;> rfl
theorem clB_q {c : List Tok} {x : PR} (e : x = (q, some c)) (h : g q ≠ 63) : clB g x = (q, none) := by rw [e]; unfold clB; exact if_neg h
theorem clB_b {q2 : Nat} {c : List Tok} {x : PR} (e : x = (q, some c)) (h : g q = 63) (h2 : pSum g 6 (sk g (q + 1)) = (q2, none)) : clB g x = (q2, none) := by rw [e]; unfold clB; simp only [h, if_true, h2]
theorem clB_g {q2 : Nat} {c c2 : List Tok} {x : PR} (e : x = (q, some c)) (h : g q = 63) (h2 : pSum g 6 (sk g (q + 1)) = (q2, some c2)) : clB g x = (q2, some (some c, c2)) := by rw [e]; unfold clB; simp only [h, if_true, h2]
theorem clB_n {x : PR} (e : x = (q, none)) : clB g x = (q, none) := by rw [e]; rfl
theorem cF_n {r : Nat} {x : PR} (e : x = (q, none)) : condFrom g r x = (q, none) := by rw [e]; rfl
theorem cF_b {r q2 : Nat} {c : List Tok} {x : PR} (e : x = (q, some c)) (h : rest g (pUnit g r) sepN 241 q c = (q2, none)) : condFrom g r x = (q2, none) := by rw [e]; simp only [condFrom, h]
theorem cF_g {r q2 : Nat} {c c2 : List Tok} {x : PR} (e : x = (q, some c)) (h : rest g (pUnit g r) sepN 241 q c = (q2, some c2)) : condFrom g r x = rest g (chn g (pUnit g r) sepN) sepO 241 q2 c2 := by rw [e]; simp only [condFrom, h]
end
/-- the three parts of going on behind a unit -/
theorem restN_G {g : Nat → Int} {N : Nat} (hG : Gok g N) {p : Nat} {c : List Tok} (hp : p ≤ N) (hs : sk g p = p) (hc : WU 16 c) : (∀ q, rest g (pUnit g 6) sepN 241 p c = (q, none) → p ≤ q ∧ q ≤ N) ∧ (∀ q c', rest g (pUnit g 6) sepN 241 p c = (q, some c') → p ≤ q ∧ q ≤ N ∧ sk g q = q ∧ p + c'.length ≤ q + c.length ∧ WU 17 c') :=
  rest_G hG (pUnit_G hG 6) rfl (W := WU 17) (fun c c2 x op h1 h2 h3 => ⟨h1.1.bin h2.1 (by have := sep_v.2.2.2.1 h3; omega) (by have := sep_v.2.2.2.1 h3; omega) (by have := sep_v.2.2.2.1 h3; omega), h1.2.bin h2.2 (by have := sep_v.2.2.2.1 h3; omega)⟩) 241 p c hp (by have := hG.1; omega) hs ⟨hc.1.mono (by omega), hc.2⟩
theorem restO_G {g : Nat → Int} {N : Nat} (hG : Gok g N) {p : Nat} {c : List Tok} (hp : p ≤ N) (hs : sk g p = p) (hc : WU 17 c) : (∀ q, rest g (chn g (pUnit g 6) sepN) sepO 241 p c = (q, none) → p ≤ q ∧ q ≤ N) ∧ (∀ q c', rest g (chn g (pUnit g 6) sepN) sepO 241 p c = (q, some c') → p ≤ q ∧ q ≤ N ∧ sk g q = q ∧ p + c'.length ≤ q + c.length ∧ WU 18 c') :=
  rest_G hG (pAnd_G hG 6) rfl (W := WU 18) (fun c c2 x op h1 h2 h3 => ⟨h1.1.bin h2.1 (by have := sep_v.2.2.2.2 h3; omega) (by have := sep_v.2.2.2.2 h3; omega) (by have := sep_v.2.2.2.2 h3; omega), h1.2.bin h2.2 (by have := sep_v.2.2.2.2 h3; omega)⟩) 241 p c hp (by have := hG.1; omega) hs ⟨hc.1.mono (by omega), hc.2⟩
theorem dX12_clause_0 : decode cX12_clause 0 = .ok (.sipush 140, 3) := by decide +kernel
theorem dX12_clause_3 : decode cX12_clause 3 = .ok (.aload_n 0, 1) := by decide +kernel
theorem dX12_clause_4 : decode cX12_clause 4 = .ok (.getfield 110, 3) := by decide +kernel
theorem dX12_clause_7 : decode cX12_clause 7 = .ok (.imul, 1) := by decide +kernel
theorem dX12_clause_8 : decode cX12_clause 8 = .ok (.aload_n 0, 1) := by decide +kernel
theorem dX12_clause_9 : decode cX12_clause 9 = .ok (.getfield 22, 3) := by decide +kernel
theorem dX12_clause_12 : decode cX12_clause 12 = .ok (.aload_n 0, 1) := by decide +kernel
theorem dX12_clause_13 : decode cX12_clause 13 = .ok (.getfield 110, 3) := by decide +kernel
theorem dX12_clause_16 : decode cX12_clause 16 = .ok (.iaload, 1) := by decide +kernel
theorem dX12_clause_17 : decode cX12_clause 17 = .ok (.iadd, 1) := by decide +kernel
theorem dX12_clause_18 : decode cX12_clause 18 = .ok (.istore_n 1, 1) := by decide +kernel
theorem dX12_clause_19 : decode cX12_clause 19 = .ok (.aload_n 0, 1) := by decide +kernel
theorem dX12_clause_20 : decode cX12_clause 20 = .ok (.getfield 107, 3) := by decide +kernel
theorem dX12_clause_23 : decode cX12_clause 23 = .ok (.iconst (-1), 1) := by decide +kernel
theorem dX12_clause_24 : decode cX12_clause 24 = .ok (.if_icmp .ne 16, 3) := by decide +kernel
theorem dX12_clause_27 : decode cX12_clause 27 = .ok (.aload_n 0, 1) := by decide +kernel
theorem dX12_clause_28 : decode cX12_clause 28 = .ok (.invokevirtual 119, 3) := by decide +kernel
theorem dX12_clause_31 : decode cX12_clause 31 = .ok (.bipush 121, 2) := by decide +kernel
theorem dX12_clause_33 : decode cX12_clause 33 = .ok (.if_icmp .eq 7, 3) := by decide +kernel
theorem dX12_clause_36 : decode cX12_clause 36 = .ok (.aload_n 0, 1) := by decide +kernel
theorem dX12_clause_37 : decode cX12_clause 37 = .ok (.invokevirtual 116, 3) := by decide +kernel
theorem dX12_clause_40 : decode cX12_clause 40 = .ok (.aload_n 0, 1) := by decide +kernel
theorem dX12_clause_41 : decode cX12_clause 41 = .ok (.dup, 1) := by decide +kernel
theorem dX12_clause_42 : decode cX12_clause 42 = .ok (.getfield 100, 3) := by decide +kernel
theorem dX12_clause_45 : decode cX12_clause 45 = .ok (.iconst 1, 1) := by decide +kernel
theorem dX12_clause_46 : decode cX12_clause 46 = .ok (.iadd, 1) := by decide +kernel
theorem dX12_clause_47 : decode cX12_clause 47 = .ok (.putfield 100, 3) := by decide +kernel
theorem dX12_clause_50 : decode cX12_clause 50 = .ok (.aload_n 0, 1) := by decide +kernel
theorem dX12_clause_51 : decode cX12_clause 51 = .ok (.getfield 107, 3) := by decide +kernel
theorem dX12_clause_54 : decode cX12_clause 54 = .ok (.iconst (-1), 1) := by decide +kernel
theorem dX12_clause_55 : decode cX12_clause 55 = .ok (.if_icmp .ne 16, 3) := by decide +kernel
theorem dX12_clause_58 : decode cX12_clause 58 = .ok (.aload_n 0, 1) := by decide +kernel
theorem dX12_clause_59 : decode cX12_clause 59 = .ok (.invokevirtual 119, 3) := by decide +kernel
theorem dX12_clause_62 : decode cX12_clause 62 = .ok (.bipush 58, 2) := by decide +kernel
theorem dX12_clause_64 : decode cX12_clause 64 = .ok (.if_icmp .eq 7, 3) := by decide +kernel
theorem dX12_clause_67 : decode cX12_clause 67 = .ok (.aload_n 0, 1) := by decide +kernel
theorem dX12_clause_68 : decode cX12_clause 68 = .ok (.invokevirtual 116, 3) := by decide +kernel
theorem dX12_clause_71 : decode cX12_clause 71 = .ok (.aload_n 0, 1) := by decide +kernel
theorem dX12_clause_72 : decode cX12_clause 72 = .ok (.dup, 1) := by decide +kernel
theorem dX12_clause_73 : decode cX12_clause 73 = .ok (.getfield 100, 3) := by decide +kernel
theorem dX12_clause_76 : decode cX12_clause 76 = .ok (.iconst 1, 1) := by decide +kernel
theorem dX12_clause_77 : decode cX12_clause 77 = .ok (.iadd, 1) := by decide +kernel
theorem dX12_clause_78 : decode cX12_clause 78 = .ok (.putfield 100, 3) := by decide +kernel
theorem dX12_clause_81 : decode cX12_clause 81 = .ok (.aload_n 0, 1) := by decide +kernel
theorem dX12_clause_82 : decode cX12_clause 82 = .ok (.getfield 107, 3) := by decide +kernel
theorem dX12_clause_85 : decode cX12_clause 85 = .ok (.iconst (-1), 1) := by decide +kernel
theorem dX12_clause_86 : decode cX12_clause 86 = .ok (.if_icmp .eq 4, 3) := by decide +kernel
theorem dX12_clause_89 : decode cX12_clause 89 = .ok (.return_, 1) := by decide +kernel
theorem dX12_clause_90 : decode cX12_clause 90 = .ok (.aload_n 0, 1) := by decide +kernel
theorem dX12_clause_91 : decode cX12_clause 91 = .ok (.getfield 25, 3) := by decide +kernel
theorem dX12_clause_94 : decode cX12_clause 94 = .ok (.iload_n 1, 1) := by decide +kernel
theorem dX12_clause_95 : decode cX12_clause 95 = .ok (.aload_n 0, 1) := by decide +kernel
theorem dX12_clause_96 : decode cX12_clause 96 = .ok (.getfield 19, 3) := by decide +kernel
theorem dX12_clause_99 : decode cX12_clause 99 = .ok (.aload_n 0, 1) := by decide +kernel
theorem dX12_clause_100 : decode cX12_clause 100 = .ok (.getfield 110, 3) := by decide +kernel
theorem dX12_clause_103 : decode cX12_clause 103 = .ok (.iaload, 1) := by decide +kernel
theorem dX12_clause_104 : decode cX12_clause 104 = .ok (.iastore, 1) := by decide +kernel
theorem dX12_clause_105 : decode cX12_clause 105 = .ok (.aload_n 0, 1) := by decide +kernel
theorem dX12_clause_106 : decode cX12_clause 106 = .ok (.invokevirtual 119, 3) := by decide +kernel
theorem dX12_clause_109 : decode cX12_clause 109 = .ok (.bipush 33, 2) := by decide +kernel
theorem dX12_clause_111 : decode cX12_clause 111 = .ok (.if_icmp .eq 12, 3) := by decide +kernel
theorem dX12_clause_114 : decode cX12_clause 114 = .ok (.aload_n 0, 1) := by decide +kernel
theorem dX12_clause_115 : decode cX12_clause 115 = .ok (.invokevirtual 119, 3) := by decide +kernel
theorem dX12_clause_118 : decode cX12_clause 118 = .ok (.bipush 40, 2) := by decide +kernel
theorem dX12_clause_120 : decode cX12_clause 120 = .ok (.if_icmp .ne 7, 3) := by decide +kernel
theorem dX12_clause_123 : decode cX12_clause 123 = .ok (.iconst 1, 1) := by decide +kernel
theorem dX12_clause_124 : decode cX12_clause 124 = .ok (.goto 4, 3) := by decide +kernel
theorem dX12_clause_127 : decode cX12_clause 127 = .ok (.iconst 0, 1) := by decide +kernel
theorem dX12_clause_128 : decode cX12_clause 128 = .ok (.istore_n 2, 1) := by decide +kernel
theorem dX12_clause_129 : decode cX12_clause 129 = .ok (.iload_n 2, 1) := by decide +kernel
theorem dX12_clause_130 : decode cX12_clause 130 = .ok (.ifCond .eq 10, 3) := by decide +kernel
theorem dX12_clause_133 : decode cX12_clause 133 = .ok (.aload_n 0, 1) := by decide +kernel
theorem dX12_clause_134 : decode cX12_clause 134 = .ok (.invokevirtual 159, 3) := by decide +kernel
theorem dX12_clause_137 : decode cX12_clause 137 = .ok (.goto 47, 3) := by decide +kernel
theorem dX12_clause_140 : decode cX12_clause 140 = .ok (.aload_n 0, 1) := by decide +kernel
theorem dX12_clause_141 : decode cX12_clause 141 = .ok (.invokevirtual 140, 3) := by decide +kernel
theorem dX12_clause_144 : decode cX12_clause 144 = .ok (.aload_n 0, 1) := by decide +kernel
theorem dX12_clause_145 : decode cX12_clause 145 = .ok (.getfield 107, 3) := by decide +kernel
theorem dX12_clause_148 : decode cX12_clause 148 = .ok (.iconst (-1), 1) := by decide +kernel
theorem dX12_clause_149 : decode cX12_clause 149 = .ok (.if_icmp .ne 17, 3) := by decide +kernel
theorem dX12_clause_152 : decode cX12_clause 152 = .ok (.aload_n 0, 1) := by decide +kernel
theorem dX12_clause_153 : decode cX12_clause 153 = .ok (.invokevirtual 119, 3) := by decide +kernel
theorem dX12_clause_156 : decode cX12_clause 156 = .ok (.invokestatic 153, 3) := by decide +kernel
theorem dX12_clause_159 : decode cX12_clause 159 = .ok (.ifCond .eq 7, 3) := by decide +kernel
theorem dX12_clause_162 : decode cX12_clause 162 = .ok (.iconst 1, 1) := by decide +kernel
theorem dX12_clause_163 : decode cX12_clause 163 = .ok (.goto 4, 3) := by decide +kernel
theorem dX12_clause_166 : decode cX12_clause 166 = .ok (.iconst 0, 1) := by decide +kernel
theorem dX12_clause_167 : decode cX12_clause 167 = .ok (.istore_n 2, 1) := by decide +kernel
theorem dX12_clause_168 : decode cX12_clause 168 = .ok (.iload_n 2, 1) := by decide +kernel
theorem dX12_clause_169 : decode cX12_clause 169 = .ok (.ifCond .eq 15, 3) := by decide +kernel
theorem dX12_clause_172 : decode cX12_clause 172 = .ok (.aload_n 0, 1) := by decide +kernel
theorem dX12_clause_173 : decode cX12_clause 173 = .ok (.invokevirtual 162, 3) := by decide +kernel
theorem dX12_clause_176 : decode cX12_clause 176 = .ok (.aload_n 0, 1) := by decide +kernel
theorem dX12_clause_177 : decode cX12_clause 177 = .ok (.invokevirtual 165, 3) := by decide +kernel
theorem dX12_clause_180 : decode cX12_clause 180 = .ok (.aload_n 0, 1) := by decide +kernel
theorem dX12_clause_181 : decode cX12_clause 181 = .ok (.invokevirtual 168, 3) := by decide +kernel
theorem dX12_clause_184 : decode cX12_clause 184 = .ok (.aload_n 0, 1) := by decide +kernel
theorem dX12_clause_185 : decode cX12_clause 185 = .ok (.getfield 28, 3) := by decide +kernel
theorem dX12_clause_188 : decode cX12_clause 188 = .ok (.iload_n 1, 1) := by decide +kernel
theorem dX12_clause_189 : decode cX12_clause 189 = .ok (.aload_n 0, 1) := by decide +kernel
theorem dX12_clause_190 : decode cX12_clause 190 = .ok (.getfield 25, 3) := by decide +kernel
theorem dX12_clause_193 : decode cX12_clause 193 = .ok (.iload_n 1, 1) := by decide +kernel
theorem dX12_clause_194 : decode cX12_clause 194 = .ok (.iaload, 1) := by decide +kernel
theorem dX12_clause_195 : decode cX12_clause 195 = .ok (.iastore, 1) := by decide +kernel
theorem dX12_clause_196 : decode cX12_clause 196 = .ok (.iload_n 2, 1) := by decide +kernel
theorem dX12_clause_197 : decode cX12_clause 197 = .ok (.ifCond .eq 54, 3) := by decide +kernel
theorem dX12_clause_200 : decode cX12_clause 200 = .ok (.aload_n 0, 1) := by decide +kernel
theorem dX12_clause_201 : decode cX12_clause 201 = .ok (.getfield 107, 3) := by decide +kernel
theorem dX12_clause_204 : decode cX12_clause 204 = .ok (.iconst (-1), 1) := by decide +kernel
theorem dX12_clause_205 : decode cX12_clause 205 = .ok (.if_icmp .ne 46, 3) := by decide +kernel
theorem dX12_clause_208 : decode cX12_clause 208 = .ok (.aload_n 0, 1) := by decide +kernel
theorem dX12_clause_209 : decode cX12_clause 209 = .ok (.invokevirtual 119, 3) := by decide +kernel
theorem dX12_clause_212 : decode cX12_clause 212 = .ok (.bipush 63, 2) := by decide +kernel
theorem dX12_clause_214 : decode cX12_clause 214 = .ok (.if_icmp .eq 8, 3) := by decide +kernel
theorem dX12_clause_217 : decode cX12_clause 217 = .ok (.aload_n 0, 1) := by decide +kernel
theorem dX12_clause_218 : decode cX12_clause 218 = .ok (.invokevirtual 116, 3) := by decide +kernel
theorem dX12_clause_221 : decode cX12_clause 221 = .ok (.return_, 1) := by decide +kernel
theorem dX12_clause_222 : decode cX12_clause 222 = .ok (.aload_n 0, 1) := by decide +kernel
theorem dX12_clause_223 : decode cX12_clause 223 = .ok (.dup, 1) := by decide +kernel
theorem dX12_clause_224 : decode cX12_clause 224 = .ok (.getfield 100, 3) := by decide +kernel
theorem dX12_clause_227 : decode cX12_clause 227 = .ok (.iconst 1, 1) := by decide +kernel
theorem dX12_clause_228 : decode cX12_clause 228 = .ok (.iadd, 1) := by decide +kernel
theorem dX12_clause_229 : decode cX12_clause 229 = .ok (.putfield 100, 3) := by decide +kernel
theorem dX12_clause_232 : decode cX12_clause 232 = .ok (.aload_n 0, 1) := by decide +kernel
theorem dX12_clause_233 : decode cX12_clause 233 = .ok (.getfield 28, 3) := by decide +kernel
theorem dX12_clause_236 : decode cX12_clause 236 = .ok (.iload_n 1, 1) := by decide +kernel
theorem dX12_clause_237 : decode cX12_clause 237 = .ok (.aload_n 0, 1) := by decide +kernel
theorem dX12_clause_238 : decode cX12_clause 238 = .ok (.getfield 19, 3) := by decide +kernel
theorem dX12_clause_241 : decode cX12_clause 241 = .ok (.aload_n 0, 1) := by decide +kernel
theorem dX12_clause_242 : decode cX12_clause 242 = .ok (.getfield 110, 3) := by decide +kernel
theorem dX12_clause_245 : decode cX12_clause 245 = .ok (.iaload, 1) := by decide +kernel
theorem dX12_clause_246 : decode cX12_clause 246 = .ok (.iastore, 1) := by decide +kernel
theorem dX12_clause_247 : decode cX12_clause 247 = .ok (.aload_n 0, 1) := by decide +kernel
theorem dX12_clause_248 : decode cX12_clause 248 = .ok (.invokevirtual 140, 3) := by decide +kernel
theorem dX12_clause_251 : decode cX12_clause 251 = .ok (.aload_n 0, 1) := by decide +kernel
theorem dX12_clause_252 : decode cX12_clause 252 = .ok (.getfield 31, 3) := by decide +kernel
theorem dX12_clause_255 : decode cX12_clause 255 = .ok (.iload_n 1, 1) := by decide +kernel
theorem dX12_clause_256 : decode cX12_clause 256 = .ok (.aload_n 0, 1) := by decide +kernel
theorem dX12_clause_257 : decode cX12_clause 257 = .ok (.getfield 19, 3) := by decide +kernel
theorem dX12_clause_260 : decode cX12_clause 260 = .ok (.aload_n 0, 1) := by decide +kernel
theorem dX12_clause_261 : decode cX12_clause 261 = .ok (.getfield 110, 3) := by decide +kernel
theorem dX12_clause_264 : decode cX12_clause 264 = .ok (.iaload, 1) := by decide +kernel
theorem dX12_clause_265 : decode cX12_clause 265 = .ok (.iastore, 1) := by decide +kernel
theorem dX12_clause_266 : decode cX12_clause 266 = .ok (.aload_n 0, 1) := by decide +kernel
theorem dX12_clause_267 : decode cX12_clause 267 = .ok (.getfield 22, 3) := by decide +kernel
theorem dX12_clause_270 : decode cX12_clause 270 = .ok (.aload_n 0, 1) := by decide +kernel
theorem dX12_clause_271 : decode cX12_clause 271 = .ok (.getfield 110, 3) := by decide +kernel
theorem dX12_clause_274 : decode cX12_clause 274 = .ok (.dup2, 1) := by decide +kernel
theorem dX12_clause_275 : decode cX12_clause 275 = .ok (.iaload, 1) := by decide +kernel
theorem dX12_clause_276 : decode cX12_clause 276 = .ok (.iconst 1, 1) := by decide +kernel
theorem dX12_clause_277 : decode cX12_clause 277 = .ok (.iadd, 1) := by decide +kernel
theorem dX12_clause_278 : decode cX12_clause 278 = .ok (.iastore, 1) := by decide +kernel
theorem dX12_clause_279 : decode cX12_clause 279 = .ok (.return_, 1) := by decide +kernel
set_option maxHeartbeats 4000000 in
set_option maxRecDepth 100000 in
theorem ctM_clause {g : Nat → Int} {N τ a : Nat} {l : List Cl} (μ : Mm) (h : PS g N τ μ a 0 (cat l)) (hC : CF μ τ l) (hL : (cat l).length ≤ sk g a) (hL2 : 3 * l.length ≤ sk g a) : CtV PM 35 yX12_clause cX12_clause 3 none [vR 0] μ (fun m => Fr (sC τ l.length) μ m ∧ ClO g N τ l (pCl g (sk g a)) m) := by
  refine ct_intro [some (vR 0), none, none] RX12 (by decide) rfl XM rfl (Nat.le_of_ble_eq_true rfl) (fun K hO => ?_)
  have hN := h.1.1.1
  have hG := h.G
  have hpN := sk_le hG h.le
  have hsg0 := sk_ge g a
  have hj : l.length < 140 := by omega
  have ht4 : τ ≤ 4 := h.1.2.2.2.2
  have hP1 : ∃ p1, sk g (sk g a + 1) = p1 := ⟨_, rfl⟩
  obtain ⟨p1, hp1⟩ := hP1
  have hP2 : ∃ p2, sk g (p1 + 1) = p2 := ⟨_, rfl⟩
  obtain ⟨p2, hp2⟩ := hP2
  have hg1 := sk_ge g (sk g a + 1)
  have hg2 := sk_ge g (p1 + 1)
  rw [hp1] at hg1
  rw [hp2] at hg2
  have hr1 := hG.rng p1
  have hr2 := hG.rng p2
  have hBB : ∃ B : Nat, B = 400 := ⟨_, rfl⟩
  obtain ⟨B, hBe⟩ := hBB
  refine aw_sipush hO dX12_clause_0 rfl (by decide) (by decide) ?_
  refine aw_aload_n hO dX12_clause_3 rfl rfl ?_
  refine gM_text hO dX12_clause_4 rfl ?_
  refine aw_cg h.1.2.2.2.1 ?_
  refine aw_imul hO dX12_clause_7 rfl ?_
  refine aw_aload_n hO dX12_clause_8 rfl rfl ?_
  refine gM_clauses hO dX12_clause_9 rfl ?_
  refine aw_aload_n hO dX12_clause_12 rfl rfl ?_
  refine gM_text hO dX12_clause_13 rfl ?_
  refine aw_cg h.1.2.2.2.1 ?_
  refine aw_ialdn (N := 5) (i := τ) hO dX12_clause_16 rfl (by decide) rfl (by decide) (by omega) (by omega) ?_
  refine aw_cg hC.1 ?_
  refine aw_iadd hO dX12_clause_17 rfl ?_
  refine aw_cg (show ((140 * ((τ : Nat) : Int)) + ((l.length : Nat) : Int)) = (((140 * τ + l.length) : Nat) : Int) by omega) ?_
  refine aw_istore_n (ls' := [some (vR 0), some (vI (((140 * τ + l.length) : Nat) : Int)), none]) hO dX12_clause_18 rfl (Nat.le_of_ble_eq_true rfl) rfl rfl ?_
  refine aw_aload_n hO dX12_clause_19 rfl rfl ?_
  refine gM_wrong hO dX12_clause_20 rfl ?_
  refine aw_cg h.wr ?_
  refine aw_iconst hO dX12_clause_23 rfl ?_
  refine aw_icmp_ne (tgt := 40) hO dX12_clause_24 rfl rfl (inRlit _) (inRlit _) (fun c24 => ?_) (fun c24 => ?_)
  · exact absurd c24 (by omega)
  · refine aw_aload_n hO dX12_clause_27 rfl rfl ?_
    refine aw_callVE (as := []) (st := []) hO dX12_clause_28 rfl (lw_t6 140 rfl rfl) kX12_look (T := TX12) rfl (by decide) rfl (ctM_look μ h.1 h.at h.le) (by omega) rfl rfl rfl (Nat.le_of_ble_eq_true rfl) (fun v1 μ2 hq3 => ?_)
    obtain ⟨e_v1, e_μ2⟩ := hq3
    subst e_v1
    have hp_μ2 := h.look
    rw [← e_μ2] at hp_μ2
    have hf_μ2 : Fr (sC τ l.length) μ μ2 := by rw [e_μ2]; exact Fr.rf.st (Or.inl sS_at) _
    have hr_μ2 := h.G.rng (sk g a)
    refine aw_bipush hO dX12_clause_31 rfl (by decide) (by decide) ?_
    refine aw_icmp_eq (tgt := 40) hO dX12_clause_33 rfl rfl ⟨by omega, by omega⟩ (inRlit _) (fun c33 => ?_) (fun c33 => ?_)
    · have hlt0 := hG.lt (p := sk g a) (by omega)
      have hp1N : p1 ≤ N := by rw [← hp1]; exact sk_le hG (by omega)
      refine aw_aload_n hO dX12_clause_40 rfl rfl ?_
      refine aw_dup hO dX12_clause_41 rfl rfl ?_
      refine gM_at hO dX12_clause_42 rfl ?_
      refine aw_cg hp_μ2.at ?_
      refine aw_iconst hO dX12_clause_45 rfl ?_
      refine aw_iadd hO dX12_clause_46 rfl ?_
      refine pM_at hO dX12_clause_47 rfl ?_
      refine aw_mm (fun μ4 e_μ4 => ?_)
      have hf_μ4 : Fr (sC τ l.length) μ μ4 := by rw [e_μ4]; exact hf_μ2.st (Or.inl sS_at) _
      have hp_μ4 := hp_μ2.to (b := ((sk g a) + 1)) (by omega)
      rw [show ((((sk g a) + 1) : Nat) : Int) = (((sk g a) : Nat) : Int) + 1 from rfl, ← e_μ4] at hp_μ4
      refine aw_aload_n hO dX12_clause_50 rfl rfl ?_
      refine gM_wrong hO dX12_clause_51 rfl ?_
      refine aw_cg hp_μ4.wr ?_
      refine aw_iconst hO dX12_clause_54 rfl ?_
      refine aw_icmp_ne (tgt := 71) hO dX12_clause_55 rfl rfl (inRlit _) (inRlit _) (fun c55 => ?_) (fun c55 => ?_)
      · exact absurd c55 (by omega)
      · refine aw_aload_n hO dX12_clause_58 rfl rfl ?_
        refine aw_callVE (as := []) (st := []) hO dX12_clause_59 rfl (lw_t6 140 rfl rfl) kX12_look (T := TX12) rfl (by decide) rfl (ctM_look μ4 hp_μ4.1 hp_μ4.at hp_μ4.le) (by omega) rfl rfl rfl (Nat.le_of_ble_eq_true rfl) (fun v5 μ6 hq7 => ?_)
        obtain ⟨e_v5, e_μ6⟩ := hq7
        subst e_v5
        have hp_μ6 := hp_μ4.look
        rw [← e_μ6] at hp_μ6
        have hf_μ6 : Fr (sC τ l.length) μ μ6 := by rw [e_μ6]; exact hf_μ4.st (Or.inl sS_at) _
        have hr_μ6 := hp_μ4.G.rng (sk g ((sk g a) + 1))
        rw [hp1] at hp_μ6 hr_μ6 ⊢
        refine aw_bipush hO dX12_clause_62 rfl (by decide) (by decide) ?_
        refine aw_icmp_eq (tgt := 71) hO dX12_clause_64 rfl rfl ⟨by omega, by omega⟩ (inRlit _) (fun c64 => ?_) (fun c64 => ?_)
        · have hlt1 := hG.lt (p := p1) (by omega)
          have hp2N : p2 ≤ N := by rw [← hp2]; exact sk_le hG (by omega)
          have hp2s : sk g p2 = p2 := by rw [← hp2, sk_sk hG]
          refine aw_aload_n hO dX12_clause_71 rfl rfl ?_
          refine aw_dup hO dX12_clause_72 rfl rfl ?_
          refine gM_at hO dX12_clause_73 rfl ?_
          refine aw_cg hp_μ6.at ?_
          refine aw_iconst hO dX12_clause_76 rfl ?_
          refine aw_iadd hO dX12_clause_77 rfl ?_
          refine pM_at hO dX12_clause_78 rfl ?_
          refine aw_mm (fun μ8 e_μ8 => ?_)
          have hf_μ8 : Fr (sC τ l.length) μ μ8 := by rw [e_μ8]; exact hf_μ6.st (Or.inl sS_at) _
          have hp_μ8 := hp_μ6.to (b := (p1 + 1)) (by omega)
          rw [show (((p1 + 1) : Nat) : Int) = ((p1 : Nat) : Int) + 1 from rfl, ← e_μ8] at hp_μ8
          refine aw_aload_n hO dX12_clause_81 rfl rfl ?_
          refine gM_wrong hO dX12_clause_82 rfl ?_
          refine aw_cg hp_μ8.wr ?_
          refine aw_iconst hO dX12_clause_85 rfl ?_
          refine aw_icmp_eq (tgt := 90) hO dX12_clause_86 rfl rfl (inRlit _) (inRlit _) (fun c86 => ?_) (fun c86 => ?_)
          · refine aw_aload_n hO dX12_clause_90 rfl rfl ?_
            refine gM_testFrom hO dX12_clause_91 rfl ?_
            refine aw_iload_n hO dX12_clause_94 rfl rfl ?_
            refine aw_aload_n hO dX12_clause_95 rfl rfl ?_
            refine gM_codes hO dX12_clause_96 rfl ?_
            refine aw_aload_n hO dX12_clause_99 rfl rfl ?_
            refine gM_text hO dX12_clause_100 rfl ?_
            refine aw_cg hp_μ8.1.2.2.2.1 ?_
            refine aw_ialdn (N := 5) (i := τ) hO dX12_clause_103 rfl (by decide) rfl (by decide) (by omega) (by omega) ?_
            refine aw_cg hp_μ8.co ?_
            refine aw_iastn (N := 700) (i := (140 * τ + l.length)) hO dX12_clause_104 rfl (by decide) rfl (by decide) rfl (by omega) ?_
            refine aw_mm (fun μ9 e_μ9 => ?_)
            have hf_μ9 : Fr (sC τ l.length) μ μ9 := by rw [e_μ9]; exact hf_μ8.st (Or.inr (Or.inr ⟨Or.inl rfl, rfl⟩)) _
            have hp_μ9 : PS g N τ μ9 (p1 + 1) 0 (cat l) := by rw [e_μ9]; exact hp_μ8.off (by omega)
            refine aw_aload_n hO dX12_clause_105 rfl rfl ?_
            refine aw_callVE (as := []) (st := []) hO dX12_clause_106 rfl (lw_t6 140 rfl rfl) kX12_look (T := TX12) rfl (by decide) rfl (ctM_look μ9 hp_μ9.1 hp_μ9.at hp_μ9.le) (by omega) rfl rfl rfl (Nat.le_of_ble_eq_true rfl) (fun v10 μ11 hq12 => ?_)
            obtain ⟨e_v10, e_μ11⟩ := hq12
            subst e_v10
            have hp_μ11 := hp_μ9.look
            rw [← e_μ11] at hp_μ11
            have hf_μ11 : Fr (sC τ l.length) μ μ11 := by rw [e_μ11]; exact hf_μ9.st (Or.inl sS_at) _
            have hr_μ11 := hp_μ9.G.rng (sk g (p1 + 1))
            rw [hp2] at hp_μ11 hr_μ11 ⊢
            refine aw_bipush hO dX12_clause_109 rfl (by decide) (by decide) ?_
            refine aw_icmp_eq (tgt := 123) hO dX12_clause_111 rfl rfl ⟨by omega, by omega⟩ (inRlit _) (fun c111 => ?_) (fun c111 => ?_)
            · refine aw_iconst hO dX12_clause_123 rfl ?_
              refine aw_goto (tgt := 128) hO dX12_clause_124 rfl ?_
              refine aw_istore_n (ls' := [some (vR 0), some (vI (((140 * τ + l.length) : Nat) : Int)), some (vI 1)]) hO dX12_clause_128 rfl (Nat.le_of_ble_eq_true rfl) rfl rfl ?_
              refine aw_iload_n hO dX12_clause_129 rfl rfl ?_
              refine aw_if_eq (tgt := 140) hO dX12_clause_130 rfl rfl (inRlit _) (fun c130 => ?_) (fun c130 => ?_)
              · exact absurd c130 (by omega)
              · refine aw_aload_n hO dX12_clause_133 rfl rfl ?_
                refine aw_callVV (as := []) (st := []) hO dX12_clause_134 rfl (lw_t6 187 rfl rfl) kX12_condition (T := TX12) rfl (by decide) rfl (ctM_condU (r := 6) (d := 0) (by omega) (ctM_unit 6 0 rfl) g N τ p2 (cat l) μ11 hp_μ11 (by rw [hp2s]; omega)) (by omega) rfl rfl rfl (Nat.le_of_ble_eq_true rfl) (fun μ14 hq15 => ?_)
                obtain ⟨hf0_μ14, ho_μ14⟩ := hq15
                have hf_μ14 : Fr (sC τ l.length) μ μ14 := hf_μ11.tr (hf0_μ14.mono fun _ _ => Or.inl)
                rcases hx14 : pCond g 6 (sk g p2) with ⟨q14, _ | t14⟩
                · have hb_μ14 := (PO_b hx14).mp ho_μ14
                  have hqN14 := hb_μ14.2.1.2
                  refine aw_goto (tgt := 184) hO dX12_clause_137 rfl ?_
                  refine aw_aload_n hO dX12_clause_184 rfl rfl ?_
                  refine gM_sumFrom hO dX12_clause_185 rfl ?_
                  refine aw_iload_n hO dX12_clause_188 rfl rfl ?_
                  refine aw_aload_n hO dX12_clause_189 rfl rfl ?_
                  refine gM_testFrom hO dX12_clause_190 rfl ?_
                  refine aw_iload_n hO dX12_clause_193 rfl rfl ?_
                  refine aw_ialdn (N := 700) (i := (140 * τ + l.length)) hO dX12_clause_194 rfl (by decide) rfl (by decide) rfl (by omega) ?_
                  refine aw_cg ((hf0_μ14.1 6 (140 * τ + l.length) (by unfold sS; omega)).trans ((mst_of (k := 6) (i := (140 * τ + l.length)) e_μ11 (by decide)).trans (mst_at e_μ9))) ?_
                  refine aw_iastn (N := 700) (i := (140 * τ + l.length)) hO dX12_clause_195 rfl (by decide) rfl (by decide) rfl (by omega) ?_
                  refine aw_mm (fun μ16 e_μ16 => ?_)
                  have hf_μ16 : Fr (sC τ l.length) μ μ16 := by rw [e_μ16]; exact hf_μ14.st (Or.inr (Or.inr ⟨Or.inr (Or.inl rfl), rfl⟩)) _
                  have hb_μ16 := Bd.cast e_μ16 (hb_μ14.off (by omega))
                  refine aw_iload_n hO dX12_clause_196 rfl rfl ?_
                  refine aw_if_eq (tgt := 251) hO dX12_clause_197 rfl rfl (inRlit _) (fun c197 => ?_) (fun c197 => ?_)
                  · exact absurd c197 (by omega)
                  · refine aw_aload_n hO dX12_clause_200 rfl rfl ?_
                    refine gM_wrong hO dX12_clause_201 rfl ?_
                    refine aw_cg hb_μ16.2.1.1 ?_
                    refine aw_iconst hO dX12_clause_204 rfl ?_
                    refine aw_icmp_ne (tgt := 251) hO dX12_clause_205 rfl rfl (inRn (by omega)) (inRlit _) (fun c205 => ?_) (fun c205 => ?_)
                    · refine aw_aload_n hO dX12_clause_251 rfl rfl ?_
                      refine gM_sumTo hO dX12_clause_252 rfl ?_
                      refine aw_iload_n hO dX12_clause_255 rfl rfl ?_
                      refine aw_aload_n hO dX12_clause_256 rfl rfl ?_
                      refine gM_codes hO dX12_clause_257 rfl ?_
                      refine aw_aload_n hO dX12_clause_260 rfl rfl ?_
                      refine gM_text hO dX12_clause_261 rfl ?_
                      refine aw_cg hb_μ16.1.2.2.2.1 ?_
                      refine aw_ialdn (N := 5) (i := τ) hO dX12_clause_264 rfl (by decide) rfl (by decide) (by omega) (by omega) ?_
                      refine aw_iastn (N := 700) (i := (140 * τ + l.length)) hO dX12_clause_265 rfl (by decide) rfl (by decide) rfl (by omega) ?_
                      refine aw_mm (fun μ17 e_μ17 => ?_)
                      have hf_μ17 : Fr (sC τ l.length) μ μ17 := by rw [e_μ17]; exact hf_μ16.st (Or.inr (Or.inr ⟨Or.inr (Or.inr rfl), rfl⟩)) _
                      have hb_μ17 := Bd.cast e_μ17 (hb_μ16.off (by omega))
                      refine aw_aload_n hO dX12_clause_266 rfl rfl ?_
                      refine gM_clauses hO dX12_clause_267 rfl ?_
                      refine aw_aload_n hO dX12_clause_270 rfl rfl ?_
                      refine gM_text hO dX12_clause_271 rfl ?_
                      refine aw_cg hb_μ17.1.2.2.2.1 ?_
                      refine aw_dup2 hO dX12_clause_274 rfl rfl rfl ?_
                      refine aw_ialdn (N := 5) (i := τ) hO dX12_clause_275 rfl (by decide) rfl (by decide) (by omega) (by omega) ?_
                      refine aw_cg ((mst_of (k := 5) (i := τ) e_μ17 (by decide)).trans ((mst_of (k := 5) (i := τ) e_μ16 (by decide)).trans ((hf0_μ14.1 5 τ (by unfold sS; omega)).trans ((mst_of (k := 5) (i := τ) e_μ11 (by decide)).trans ((mst_of (k := 5) (i := τ) e_μ9 (by decide)).trans ((mst_of (k := 5) (i := τ) e_μ8 (by decide)).trans ((mst_of (k := 5) (i := τ) e_μ6 (by decide)).trans ((mst_of (k := 5) (i := τ) e_μ4 (by decide)).trans ((mst_of (k := 5) (i := τ) e_μ2 (by decide)).trans hC.1))))))))) ?_
                      refine aw_iconst hO dX12_clause_276 rfl ?_
                      refine aw_iadd hO dX12_clause_277 rfl ?_
                      refine aw_iastn (N := 5) (i := τ) hO dX12_clause_278 rfl (by decide) rfl (by decide) (by omega) (by omega) ?_
                      refine aw_mm (fun μ18 e_μ18 => ?_)
                      have hf_μ18 : Fr (sC τ l.length) μ μ18 := by rw [e_μ18]; exact hf_μ17.st (Or.inr (Or.inl ⟨rfl, rfl⟩)) _
                      have hb_μ18 := Bd.cast e_μ18 (hb_μ17.off (by omega))
                      refine aw_vret hO dX12_clause_279 ?_
                      exact ⟨rfl, hf_μ18, ClO_b ((pCl_t c33 hp1 c64 hp2 (Or.inl c111)).trans (clB_n (by rw [← hp2s]; exact hx14))) hb_μ18⟩
                    · exact absurd c205 (by omega)
                · obtain ⟨b14, hs14, hp_μ14⟩ := (PO_g hx14).mp ho_μ14
                  have hle14 := hp_μ14.le
                  rw [hp2s] at hx14
                  obtain ⟨u1, u2, u3, u4, u5⟩ := (pCond_G hG 6 p2 hp2N).2 q14 t14 hx14
                  refine aw_goto (tgt := 184) hO dX12_clause_137 rfl ?_
                  refine aw_aload_n hO dX12_clause_184 rfl rfl ?_
                  refine gM_sumFrom hO dX12_clause_185 rfl ?_
                  refine aw_iload_n hO dX12_clause_188 rfl rfl ?_
                  refine aw_aload_n hO dX12_clause_189 rfl rfl ?_
                  refine gM_testFrom hO dX12_clause_190 rfl ?_
                  refine aw_iload_n hO dX12_clause_193 rfl rfl ?_
                  refine aw_ialdn (N := 700) (i := (140 * τ + l.length)) hO dX12_clause_194 rfl (by decide) rfl (by decide) rfl (by omega) ?_
                  refine aw_cg ((hf0_μ14.1 6 (140 * τ + l.length) (by unfold sS; omega)).trans ((mst_of (k := 6) (i := (140 * τ + l.length)) e_μ11 (by decide)).trans (mst_at e_μ9))) ?_
                  refine aw_iastn (N := 700) (i := (140 * τ + l.length)) hO dX12_clause_195 rfl (by decide) rfl (by decide) rfl (by omega) ?_
                  refine aw_mm (fun μ19 e_μ19 => ?_)
                  have hf_μ19 : Fr (sC τ l.length) μ μ19 := by rw [e_μ19]; exact hf_μ14.st (Or.inr (Or.inr ⟨Or.inr (Or.inl rfl), rfl⟩)) _
                  have hp_μ19 : PS g N τ μ19 b14 0 ((cat l) ++ t14) := by rw [e_μ19]; exact hp_μ14.off (by omega)
                  refine aw_iload_n hO dX12_clause_196 rfl rfl ?_
                  refine aw_if_eq (tgt := 251) hO dX12_clause_197 rfl rfl (inRlit _) (fun c197 => ?_) (fun c197 => ?_)
                  · exact absurd c197 (by omega)
                  · refine aw_aload_n hO dX12_clause_200 rfl rfl ?_
                    refine gM_wrong hO dX12_clause_201 rfl ?_
                    refine aw_cg hp_μ19.wr ?_
                    refine aw_iconst hO dX12_clause_204 rfl ?_
                    refine aw_icmp_ne (tgt := 251) hO dX12_clause_205 rfl rfl (inRlit _) (inRlit _) (fun c205 => ?_) (fun c205 => ?_)
                    · exact absurd c205 (by omega)
                    · refine aw_aload_n hO dX12_clause_208 rfl rfl ?_
                      refine aw_callVE (as := []) (st := []) hO dX12_clause_209 rfl (lw_t6 140 rfl rfl) kX12_look (T := TX12) rfl (by decide) rfl (ctM_look μ19 hp_μ19.1 hp_μ19.at hp_μ19.le) (by omega) rfl rfl rfl (Nat.le_of_ble_eq_true rfl) (fun v20 μ21 hq22 => ?_)
                      obtain ⟨e_v20, e_μ21⟩ := hq22
                      subst e_v20
                      have hp_μ21 := hp_μ19.look
                      rw [← e_μ21] at hp_μ21
                      have hf_μ21 : Fr (sC τ l.length) μ μ21 := by rw [e_μ21]; exact hf_μ19.st (Or.inl sS_at) _
                      have hr_μ21 := hp_μ19.G.rng (sk g b14)
                      rw [hs14] at hp_μ21 hr_μ21 ⊢
                      refine aw_bipush hO dX12_clause_212 rfl (by decide) (by decide) ?_
                      refine aw_icmp_eq (tgt := 222) hO dX12_clause_214 rfl rfl ⟨by omega, by omega⟩ (inRlit _) (fun c214 => ?_) (fun c214 => ?_)
                      · have hltq := hG.lt (p := q14) (by omega)
                        refine aw_aload_n hO dX12_clause_222 rfl rfl ?_
                        refine aw_dup hO dX12_clause_223 rfl rfl ?_
                        refine gM_at hO dX12_clause_224 rfl ?_
                        refine aw_cg hp_μ21.at ?_
                        refine aw_iconst hO dX12_clause_227 rfl ?_
                        refine aw_iadd hO dX12_clause_228 rfl ?_
                        refine pM_at hO dX12_clause_229 rfl ?_
                        refine aw_mm (fun μ23 e_μ23 => ?_)
                        have hf_μ23 : Fr (sC τ l.length) μ μ23 := by rw [e_μ23]; exact hf_μ21.st (Or.inl sS_at) _
                        have hp_μ23 := hp_μ21.to (b := (q14 + 1)) (by omega)
                        rw [show (((q14 + 1) : Nat) : Int) = ((q14 : Nat) : Int) + 1 from rfl, ← e_μ23] at hp_μ23
                        refine aw_aload_n hO dX12_clause_232 rfl rfl ?_
                        refine gM_sumFrom hO dX12_clause_233 rfl ?_
                        refine aw_iload_n hO dX12_clause_236 rfl rfl ?_
                        refine aw_aload_n hO dX12_clause_237 rfl rfl ?_
                        refine gM_codes hO dX12_clause_238 rfl ?_
                        refine aw_aload_n hO dX12_clause_241 rfl rfl ?_
                        refine gM_text hO dX12_clause_242 rfl ?_
                        refine aw_cg hp_μ23.1.2.2.2.1 ?_
                        refine aw_ialdn (N := 5) (i := τ) hO dX12_clause_245 rfl (by decide) rfl (by decide) (by omega) (by omega) ?_
                        refine aw_cg hp_μ23.co ?_
                        refine aw_iastn (N := 700) (i := (140 * τ + l.length)) hO dX12_clause_246 rfl (by decide) rfl (by decide) rfl (by omega) ?_
                        refine aw_mm (fun μ24 e_μ24 => ?_)
                        have hf_μ24 : Fr (sC τ l.length) μ μ24 := by rw [e_μ24]; exact hf_μ23.st (Or.inr (Or.inr ⟨Or.inr (Or.inl rfl), rfl⟩)) _
                        have hp_μ24 : PS g N τ μ24 (q14 + 1) 0 ((cat l) ++ t14) := by rw [e_μ24]; exact hp_μ23.off (by omega)
                        refine aw_aload_n hO dX12_clause_247 rfl rfl ?_
                        refine aw_callVV (as := []) (st := []) hO dX12_clause_248 rfl (lw_t6 207 rfl rfl) kX12_sum (T := TX12) rfl (by decide) rfl (ctM_sum 6 0 rfl g N τ (q14 + 1) (cat l ++ t14) μ24 hp_μ24 (by have := sk_ge g (q14 + 1); rw [List.length_append]; omega)) (by omega) rfl rfl rfl (Nat.le_of_ble_eq_true rfl) (fun μ26 hq27 => ?_)
                        obtain ⟨hf0_μ26, ho_μ26⟩ := hq27
                        have hf_μ26 : Fr (sC τ l.length) μ μ26 := hf_μ24.tr (hf0_μ26.mono fun _ _ => Or.inl)
                        rcases hx26 : pSum g 6 (sk g (q14 + 1)) with ⟨q26, _ | t26⟩
                        · have hb_μ26 := (PO_b hx26).mp ho_μ26
                          have hqN26 := hb_μ26.2.1.2
                          refine aw_aload_n hO dX12_clause_251 rfl rfl ?_
                          refine gM_sumTo hO dX12_clause_252 rfl ?_
                          refine aw_iload_n hO dX12_clause_255 rfl rfl ?_
                          refine aw_aload_n hO dX12_clause_256 rfl rfl ?_
                          refine gM_codes hO dX12_clause_257 rfl ?_
                          refine aw_aload_n hO dX12_clause_260 rfl rfl ?_
                          refine gM_text hO dX12_clause_261 rfl ?_
                          refine aw_cg hb_μ26.1.2.2.2.1 ?_
                          refine aw_ialdn (N := 5) (i := τ) hO dX12_clause_264 rfl (by decide) rfl (by decide) (by omega) (by omega) ?_
                          refine aw_iastn (N := 700) (i := (140 * τ + l.length)) hO dX12_clause_265 rfl (by decide) rfl (by decide) rfl (by omega) ?_
                          refine aw_mm (fun μ28 e_μ28 => ?_)
                          have hf_μ28 : Fr (sC τ l.length) μ μ28 := by rw [e_μ28]; exact hf_μ26.st (Or.inr (Or.inr ⟨Or.inr (Or.inr rfl), rfl⟩)) _
                          have hb_μ28 := Bd.cast e_μ28 (hb_μ26.off (by omega))
                          refine aw_aload_n hO dX12_clause_266 rfl rfl ?_
                          refine gM_clauses hO dX12_clause_267 rfl ?_
                          refine aw_aload_n hO dX12_clause_270 rfl rfl ?_
                          refine gM_text hO dX12_clause_271 rfl ?_
                          refine aw_cg hb_μ28.1.2.2.2.1 ?_
                          refine aw_dup2 hO dX12_clause_274 rfl rfl rfl ?_
                          refine aw_ialdn (N := 5) (i := τ) hO dX12_clause_275 rfl (by decide) rfl (by decide) (by omega) (by omega) ?_
                          refine aw_cg ((mst_of (k := 5) (i := τ) e_μ28 (by decide)).trans ((hf0_μ26.1 5 τ (by unfold sS; omega)).trans ((mst_of (k := 5) (i := τ) e_μ24 (by decide)).trans ((mst_of (k := 5) (i := τ) e_μ23 (by decide)).trans ((mst_of (k := 5) (i := τ) e_μ21 (by decide)).trans ((mst_of (k := 5) (i := τ) e_μ19 (by decide)).trans ((hf0_μ14.1 5 τ (by unfold sS; omega)).trans ((mst_of (k := 5) (i := τ) e_μ11 (by decide)).trans ((mst_of (k := 5) (i := τ) e_μ9 (by decide)).trans ((mst_of (k := 5) (i := τ) e_μ8 (by decide)).trans ((mst_of (k := 5) (i := τ) e_μ6 (by decide)).trans ((mst_of (k := 5) (i := τ) e_μ4 (by decide)).trans ((mst_of (k := 5) (i := τ) e_μ2 (by decide)).trans hC.1))))))))))))) ?_
                          refine aw_iconst hO dX12_clause_276 rfl ?_
                          refine aw_iadd hO dX12_clause_277 rfl ?_
                          refine aw_iastn (N := 5) (i := τ) hO dX12_clause_278 rfl (by decide) rfl (by decide) (by omega) (by omega) ?_
                          refine aw_mm (fun μ29 e_μ29 => ?_)
                          have hf_μ29 : Fr (sC τ l.length) μ μ29 := by rw [e_μ29]; exact hf_μ28.st (Or.inr (Or.inl ⟨rfl, rfl⟩)) _
                          have hb_μ29 := Bd.cast e_μ29 (hb_μ28.off (by omega))
                          refine aw_vret hO dX12_clause_279 ?_
                          exact ⟨rfl, hf_μ29, ClO_b ((pCl_t c33 hp1 c64 hp2 (Or.inl c111)).trans (clB_b hx14 c214 hx26)) hb_μ29⟩
                        · obtain ⟨b26, hs26, hp_μ26⟩ := (PO_g hx26).mp ho_μ26
                          have hle26 := hp_μ26.le
                          refine aw_aload_n hO dX12_clause_251 rfl rfl ?_
                          refine gM_sumTo hO dX12_clause_252 rfl ?_
                          refine aw_iload_n hO dX12_clause_255 rfl rfl ?_
                          refine aw_aload_n hO dX12_clause_256 rfl rfl ?_
                          refine gM_codes hO dX12_clause_257 rfl ?_
                          refine aw_aload_n hO dX12_clause_260 rfl rfl ?_
                          refine gM_text hO dX12_clause_261 rfl ?_
                          refine aw_cg hp_μ26.1.2.2.2.1 ?_
                          refine aw_ialdn (N := 5) (i := τ) hO dX12_clause_264 rfl (by decide) rfl (by decide) (by omega) (by omega) ?_
                          refine aw_cg hp_μ26.co ?_
                          refine aw_iastn (N := 700) (i := (140 * τ + l.length)) hO dX12_clause_265 rfl (by decide) rfl (by decide) rfl (by omega) ?_
                          refine aw_mm (fun μ30 e_μ30 => ?_)
                          have hf_μ30 : Fr (sC τ l.length) μ μ30 := by rw [e_μ30]; exact hf_μ26.st (Or.inr (Or.inr ⟨Or.inr (Or.inr rfl), rfl⟩)) _
                          have hp_μ30 : PS g N τ μ30 b26 0 ((cat l ++ t14) ++ t26) := by rw [e_μ30]; exact hp_μ26.off (by omega)
                          refine aw_aload_n hO dX12_clause_266 rfl rfl ?_
                          refine gM_clauses hO dX12_clause_267 rfl ?_
                          refine aw_aload_n hO dX12_clause_270 rfl rfl ?_
                          refine gM_text hO dX12_clause_271 rfl ?_
                          refine aw_cg hp_μ30.1.2.2.2.1 ?_
                          refine aw_dup2 hO dX12_clause_274 rfl rfl rfl ?_
                          refine aw_ialdn (N := 5) (i := τ) hO dX12_clause_275 rfl (by decide) rfl (by decide) (by omega) (by omega) ?_
                          refine aw_cg ((mst_of (k := 5) (i := τ) e_μ30 (by decide)).trans ((hf0_μ26.1 5 τ (by unfold sS; omega)).trans ((mst_of (k := 5) (i := τ) e_μ24 (by decide)).trans ((mst_of (k := 5) (i := τ) e_μ23 (by decide)).trans ((mst_of (k := 5) (i := τ) e_μ21 (by decide)).trans ((mst_of (k := 5) (i := τ) e_μ19 (by decide)).trans ((hf0_μ14.1 5 τ (by unfold sS; omega)).trans ((mst_of (k := 5) (i := τ) e_μ11 (by decide)).trans ((mst_of (k := 5) (i := τ) e_μ9 (by decide)).trans ((mst_of (k := 5) (i := τ) e_μ8 (by decide)).trans ((mst_of (k := 5) (i := τ) e_μ6 (by decide)).trans ((mst_of (k := 5) (i := τ) e_μ4 (by decide)).trans ((mst_of (k := 5) (i := τ) e_μ2 (by decide)).trans hC.1))))))))))))) ?_
                          refine aw_iconst hO dX12_clause_276 rfl ?_
                          refine aw_iadd hO dX12_clause_277 rfl ?_
                          refine aw_iastn (N := 5) (i := τ) hO dX12_clause_278 rfl (by decide) rfl (by decide) (by omega) (by omega) ?_
                          refine aw_mm (fun μ31 e_μ31 => ?_)
                          have hf_μ31 : Fr (sC τ l.length) μ μ31 := by rw [e_μ31]; exact hf_μ30.st (Or.inr (Or.inl ⟨rfl, rfl⟩)) _
                          have hp_μ31 : PS g N τ μ31 b26 0 ((cat l ++ t14) ++ t26) := by rw [e_μ31]; exact hp_μ30.off (by omega)
                          refine aw_vret hO dX12_clause_279 ?_
                          have hp9 : PS g N τ μ31 b26 0 (cat (l ++ [((some t14, t26) : Cl)])) := by rw [cat_app]; have hq9 := hp_μ31; rw [List.append_assoc] at hq9; exact hq9
                          exact ⟨rfl, hf_μ31, ClO_g ((pCl_t c33 hp1 c64 hp2 (Or.inl c111)).trans (clB_g hx14 c214 hx26)) hs26 hp9 (hC.ext hf_μ31 (mst_at e_μ31) ((mst_of (k := 6) (i := (140 * τ + l.length)) e_μ31 (by decide)).trans ((mst_of (k := 6) (i := (140 * τ + l.length)) e_μ30 (by decide)).trans ((hf0_μ26.1 6 (140 * τ + l.length) (by unfold sS; omega)).trans ((mst_of (k := 6) (i := (140 * τ + l.length)) e_μ24 (by decide)).trans ((mst_of (k := 6) (i := (140 * τ + l.length)) e_μ23 (by decide)).trans ((mst_of (k := 6) (i := (140 * τ + l.length)) e_μ21 (by decide)).trans ((mst_of (k := 6) (i := (140 * τ + l.length)) e_μ19 (by decide)).trans ((hf0_μ14.1 6 (140 * τ + l.length) (by unfold sS; omega)).trans ((mst_of (k := 6) (i := (140 * τ + l.length)) e_μ11 (by decide)).trans (mst_at e_μ9)))))))))) ((((mst_of (k := 7) (i := (140 * τ + l.length)) e_μ31 (by decide)).trans ((mst_of (k := 7) (i := (140 * τ + l.length)) e_μ30 (by decide)).trans ((hf0_μ26.1 7 (140 * τ + l.length) (by unfold sS; omega)).trans (mst_at e_μ24))))).trans (by simp [List.length_append])) ((((mst_of (k := 8) (i := (140 * τ + l.length)) e_μ31 (by decide)).trans (mst_at e_μ30))).trans (by simp [List.length_append]; omega)))⟩
                      · refine aw_aload_n hO dX12_clause_217 rfl rfl ?_
                        have hlenb : (((cat l) ++ t14)).length ≤ 400 := by first | omega | (simp only [List.length_append]; omega)
                        refine aw_callVV (as := []) (st := []) hO dX12_clause_218 rfl (lw_t6 168 rfl rfl) kX12_bad (T := TX12) rfl (by decide) rfl (ctM_bad μ21 hp_μ21.at hp_μ21.wr) (by omega) rfl rfl rfl (Nat.le_of_ble_eq_true rfl) (fun μ33 hq34 => ?_)
                        have hb_μ33 := hp_μ21.bad (B := B) (by omega)
                        rw [← hq34] at hb_μ33
                        have hf_μ33 : Fr (sC τ l.length) μ μ33 := by rw [hq34]; exact hf_μ21.st (Or.inl sS_wr) _
                        refine aw_vret hO dX12_clause_221 ?_
                        exact ⟨rfl, hf_μ33, ClO_b ((pCl_t c33 hp1 c64 hp2 (Or.inl c111)).trans (clB_q hx14 c214)) hb_μ33⟩
            · refine aw_aload_n hO dX12_clause_114 rfl rfl ?_
              refine aw_callVE (as := []) (st := []) hO dX12_clause_115 rfl (lw_t6 140 rfl rfl) kX12_look (T := TX12) rfl (by decide) rfl (ctM_look μ11 hp_μ11.1 hp_μ11.at hp_μ11.le) (by omega) rfl rfl rfl (Nat.le_of_ble_eq_true rfl) (fun v35 μ36 hq37 => ?_)
              obtain ⟨e_v35, e_μ36⟩ := hq37
              subst e_v35
              have hp_μ36 := hp_μ11.look
              rw [← e_μ36] at hp_μ36
              have hf_μ36 : Fr (sC τ l.length) μ μ36 := by rw [e_μ36]; exact hf_μ11.st (Or.inl sS_at) _
              have hr_μ36 := hp_μ11.G.rng (sk g p2)
              rw [show sk g p2 = p2 by rw [← hp2, sk_sk hG]] at hp_μ36 hr_μ36 ⊢
              refine aw_bipush hO dX12_clause_118 rfl (by decide) (by decide) ?_
              refine aw_icmp_ne (tgt := 127) hO dX12_clause_120 rfl rfl ⟨by omega, by omega⟩ (inRlit _) (fun c120 => ?_) (fun c120 => ?_)
              · refine aw_iconst hO dX12_clause_127 rfl ?_
                refine aw_istore_n (ls' := [some (vR 0), some (vI (((140 * τ + l.length) : Nat) : Int)), some (vI 0)]) hO dX12_clause_128 rfl (Nat.le_of_ble_eq_true rfl) rfl rfl ?_
                refine aw_iload_n hO dX12_clause_129 rfl rfl ?_
                refine aw_if_eq (tgt := 140) hO dX12_clause_130 rfl rfl (inRlit _) (fun c130 => ?_) (fun c130 => ?_)
                · refine aw_aload_n hO dX12_clause_140 rfl rfl ?_
                  refine aw_callVV (as := []) (st := []) hO dX12_clause_141 rfl (lw_t6 207 rfl rfl) kX12_sum (T := TX12) rfl (by decide) rfl (ctM_sum 6 0 rfl g N τ p2 (cat l) μ36 hp_μ36 (by rw [hp2s]; omega)) (by omega) rfl rfl rfl (Nat.le_of_ble_eq_true rfl) (fun μ39 hq40 => ?_)
                  obtain ⟨hf0_μ39, ho_μ39⟩ := hq40
                  have hf_μ39 : Fr (sC τ l.length) μ μ39 := hf_μ36.tr (hf0_μ39.mono fun _ _ => Or.inl)
                  rcases hx39 : pSum g 6 (sk g p2) with ⟨q39, _ | t39⟩
                  · have hb_μ39 := (PO_b hx39).mp ho_μ39
                    have hqN39 := hb_μ39.2.1.2
                    refine aw_aload_n hO dX12_clause_144 rfl rfl ?_
                    refine gM_wrong hO dX12_clause_145 rfl ?_
                    refine aw_cg hb_μ39.2.1.1 ?_
                    refine aw_iconst hO dX12_clause_148 rfl ?_
                    refine aw_icmp_ne (tgt := 166) hO dX12_clause_149 rfl rfl (inRn (by omega)) (inRlit _) (fun c149 => ?_) (fun c149 => ?_)
                    · refine aw_iconst hO dX12_clause_166 rfl ?_
                      refine aw_istore_n (ls' := [some (vR 0), some (vI (((140 * τ + l.length) : Nat) : Int)), some (vI 0)]) hO dX12_clause_167 rfl (Nat.le_of_ble_eq_true rfl) rfl rfl ?_
                      refine aw_iload_n hO dX12_clause_168 rfl rfl ?_
                      refine aw_if_eq (tgt := 184) hO dX12_clause_169 rfl rfl (inRlit _) (fun c169 => ?_) (fun c169 => ?_)
                      · refine aw_aload_n hO dX12_clause_184 rfl rfl ?_
                        refine gM_sumFrom hO dX12_clause_185 rfl ?_
                        refine aw_iload_n hO dX12_clause_188 rfl rfl ?_
                        refine aw_aload_n hO dX12_clause_189 rfl rfl ?_
                        refine gM_testFrom hO dX12_clause_190 rfl ?_
                        refine aw_iload_n hO dX12_clause_193 rfl rfl ?_
                        refine aw_ialdn (N := 700) (i := (140 * τ + l.length)) hO dX12_clause_194 rfl (by decide) rfl (by decide) rfl (by omega) ?_
                        refine aw_cg ((hf0_μ39.1 6 (140 * τ + l.length) (by unfold sS; omega)).trans ((mst_of (k := 6) (i := (140 * τ + l.length)) e_μ36 (by decide)).trans ((mst_of (k := 6) (i := (140 * τ + l.length)) e_μ11 (by decide)).trans (mst_at e_μ9)))) ?_
                        refine aw_iastn (N := 700) (i := (140 * τ + l.length)) hO dX12_clause_195 rfl (by decide) rfl (by decide) rfl (by omega) ?_
                        refine aw_mm (fun μ41 e_μ41 => ?_)
                        have hf_μ41 : Fr (sC τ l.length) μ μ41 := by rw [e_μ41]; exact hf_μ39.st (Or.inr (Or.inr ⟨Or.inr (Or.inl rfl), rfl⟩)) _
                        have hb_μ41 := Bd.cast e_μ41 (hb_μ39.off (by omega))
                        refine aw_iload_n hO dX12_clause_196 rfl rfl ?_
                        refine aw_if_eq (tgt := 251) hO dX12_clause_197 rfl rfl (inRlit _) (fun c197 => ?_) (fun c197 => ?_)
                        · refine aw_aload_n hO dX12_clause_251 rfl rfl ?_
                          refine gM_sumTo hO dX12_clause_252 rfl ?_
                          refine aw_iload_n hO dX12_clause_255 rfl rfl ?_
                          refine aw_aload_n hO dX12_clause_256 rfl rfl ?_
                          refine gM_codes hO dX12_clause_257 rfl ?_
                          refine aw_aload_n hO dX12_clause_260 rfl rfl ?_
                          refine gM_text hO dX12_clause_261 rfl ?_
                          refine aw_cg hb_μ41.1.2.2.2.1 ?_
                          refine aw_ialdn (N := 5) (i := τ) hO dX12_clause_264 rfl (by decide) rfl (by decide) (by omega) (by omega) ?_
                          refine aw_iastn (N := 700) (i := (140 * τ + l.length)) hO dX12_clause_265 rfl (by decide) rfl (by decide) rfl (by omega) ?_
                          refine aw_mm (fun μ42 e_μ42 => ?_)
                          have hf_μ42 : Fr (sC τ l.length) μ μ42 := by rw [e_μ42]; exact hf_μ41.st (Or.inr (Or.inr ⟨Or.inr (Or.inr rfl), rfl⟩)) _
                          have hb_μ42 := Bd.cast e_μ42 (hb_μ41.off (by omega))
                          refine aw_aload_n hO dX12_clause_266 rfl rfl ?_
                          refine gM_clauses hO dX12_clause_267 rfl ?_
                          refine aw_aload_n hO dX12_clause_270 rfl rfl ?_
                          refine gM_text hO dX12_clause_271 rfl ?_
                          refine aw_cg hb_μ42.1.2.2.2.1 ?_
                          refine aw_dup2 hO dX12_clause_274 rfl rfl rfl ?_
                          refine aw_ialdn (N := 5) (i := τ) hO dX12_clause_275 rfl (by decide) rfl (by decide) (by omega) (by omega) ?_
                          refine aw_cg ((mst_of (k := 5) (i := τ) e_μ42 (by decide)).trans ((mst_of (k := 5) (i := τ) e_μ41 (by decide)).trans ((hf0_μ39.1 5 τ (by unfold sS; omega)).trans ((mst_of (k := 5) (i := τ) e_μ36 (by decide)).trans ((mst_of (k := 5) (i := τ) e_μ11 (by decide)).trans ((mst_of (k := 5) (i := τ) e_μ9 (by decide)).trans ((mst_of (k := 5) (i := τ) e_μ8 (by decide)).trans ((mst_of (k := 5) (i := τ) e_μ6 (by decide)).trans ((mst_of (k := 5) (i := τ) e_μ4 (by decide)).trans ((mst_of (k := 5) (i := τ) e_μ2 (by decide)).trans hC.1)))))))))) ?_
                          refine aw_iconst hO dX12_clause_276 rfl ?_
                          refine aw_iadd hO dX12_clause_277 rfl ?_
                          refine aw_iastn (N := 5) (i := τ) hO dX12_clause_278 rfl (by decide) rfl (by decide) (by omega) (by omega) ?_
                          refine aw_mm (fun μ43 e_μ43 => ?_)
                          have hf_μ43 : Fr (sC τ l.length) μ μ43 := by rw [e_μ43]; exact hf_μ42.st (Or.inr (Or.inl ⟨rfl, rfl⟩)) _
                          have hb_μ43 := Bd.cast e_μ43 (hb_μ42.off (by omega))
                          refine aw_vret hO dX12_clause_279 ?_
                          exact ⟨rfl, hf_μ43, ClO_b ((pCl_s c33 hp1 c64 hp2 c111 c120).trans (by rw [← hp2s]; simp only [hx39])) hb_μ43⟩
                        · exact absurd c197 (by omega)
                      · exact absurd c169 (by omega)
                    · exact absurd c149 (by omega)
                  · obtain ⟨b39, hs39, hp_μ39⟩ := (PO_g hx39).mp ho_μ39
                    have hle39 := hp_μ39.le
                    rw [hp2s] at hx39
                    obtain ⟨u1, u2, u3, u4, u5⟩ := (pSum_G hG 6 p2 hp2N).2 q39 t39 hx39
                    refine aw_aload_n hO dX12_clause_144 rfl rfl ?_
                    refine gM_wrong hO dX12_clause_145 rfl ?_
                    refine aw_cg hp_μ39.wr ?_
                    refine aw_iconst hO dX12_clause_148 rfl ?_
                    refine aw_icmp_ne (tgt := 166) hO dX12_clause_149 rfl rfl (inRlit _) (inRlit _) (fun c149 => ?_) (fun c149 => ?_)
                    · exact absurd c149 (by omega)
                    · refine aw_aload_n hO dX12_clause_152 rfl rfl ?_
                      refine aw_callVE (as := []) (st := []) hO dX12_clause_153 rfl (lw_t6 140 rfl rfl) kX12_look (T := TX12) rfl (by decide) rfl (ctM_look μ39 hp_μ39.1 hp_μ39.at hp_μ39.le) (by omega) rfl rfl rfl (Nat.le_of_ble_eq_true rfl) (fun v44 μ45 hq46 => ?_)
                      obtain ⟨e_v44, e_μ45⟩ := hq46
                      subst e_v44
                      have hp_μ45 := hp_μ39.look
                      rw [← e_μ45] at hp_μ45
                      have hf_μ45 : Fr (sC τ l.length) μ μ45 := by rw [e_μ45]; exact hf_μ39.st (Or.inl sS_at) _
                      have hr_μ45 := hp_μ39.G.rng (sk g b39)
                      rw [hs39] at hp_μ45 hr_μ45 ⊢
                      refine aw_callSI (as := [vI (g q39)]) (st := []) hO dX12_clause_156 rfl (lw_t6 230 rfl rfl) kX12_isSign (ctM_isSign μ45 (v := g q39) ⟨by omega, by omega⟩) (by omega) rfl rfl rfl (Nat.le_of_ble_eq_true rfl) ?_
                      refine aw_ifz_eq (tgt := 166) hO dX12_clause_159 rfl rfl (fun c159 => ?_) (fun c159 => ?_)
                      · refine aw_iconst hO dX12_clause_166 rfl ?_
                        refine aw_istore_n (ls' := [some (vR 0), some (vI (((140 * τ + l.length) : Nat) : Int)), some (vI 0)]) hO dX12_clause_167 rfl (Nat.le_of_ble_eq_true rfl) rfl rfl ?_
                        refine aw_iload_n hO dX12_clause_168 rfl rfl ?_
                        refine aw_if_eq (tgt := 184) hO dX12_clause_169 rfl rfl (inRlit _) (fun c169 => ?_) (fun c169 => ?_)
                        · refine aw_aload_n hO dX12_clause_184 rfl rfl ?_
                          refine gM_sumFrom hO dX12_clause_185 rfl ?_
                          refine aw_iload_n hO dX12_clause_188 rfl rfl ?_
                          refine aw_aload_n hO dX12_clause_189 rfl rfl ?_
                          refine gM_testFrom hO dX12_clause_190 rfl ?_
                          refine aw_iload_n hO dX12_clause_193 rfl rfl ?_
                          refine aw_ialdn (N := 700) (i := (140 * τ + l.length)) hO dX12_clause_194 rfl (by decide) rfl (by decide) rfl (by omega) ?_
                          refine aw_cg ((mst_of (k := 6) (i := (140 * τ + l.length)) e_μ45 (by decide)).trans ((hf0_μ39.1 6 (140 * τ + l.length) (by unfold sS; omega)).trans ((mst_of (k := 6) (i := (140 * τ + l.length)) e_μ36 (by decide)).trans ((mst_of (k := 6) (i := (140 * τ + l.length)) e_μ11 (by decide)).trans (mst_at e_μ9))))) ?_
                          refine aw_iastn (N := 700) (i := (140 * τ + l.length)) hO dX12_clause_195 rfl (by decide) rfl (by decide) rfl (by omega) ?_
                          refine aw_mm (fun μ47 e_μ47 => ?_)
                          have hf_μ47 : Fr (sC τ l.length) μ μ47 := by rw [e_μ47]; exact hf_μ45.st (Or.inr (Or.inr ⟨Or.inr (Or.inl rfl), rfl⟩)) _
                          have hp_μ47 : PS g N τ μ47 q39 0 ((cat l) ++ t39) := by rw [e_μ47]; exact hp_μ45.off (by omega)
                          refine aw_iload_n hO dX12_clause_196 rfl rfl ?_
                          refine aw_if_eq (tgt := 251) hO dX12_clause_197 rfl rfl (inRlit _) (fun c197 => ?_) (fun c197 => ?_)
                          · refine aw_aload_n hO dX12_clause_251 rfl rfl ?_
                            refine gM_sumTo hO dX12_clause_252 rfl ?_
                            refine aw_iload_n hO dX12_clause_255 rfl rfl ?_
                            refine aw_aload_n hO dX12_clause_256 rfl rfl ?_
                            refine gM_codes hO dX12_clause_257 rfl ?_
                            refine aw_aload_n hO dX12_clause_260 rfl rfl ?_
                            refine gM_text hO dX12_clause_261 rfl ?_
                            refine aw_cg hp_μ47.1.2.2.2.1 ?_
                            refine aw_ialdn (N := 5) (i := τ) hO dX12_clause_264 rfl (by decide) rfl (by decide) (by omega) (by omega) ?_
                            refine aw_cg hp_μ47.co ?_
                            refine aw_iastn (N := 700) (i := (140 * τ + l.length)) hO dX12_clause_265 rfl (by decide) rfl (by decide) rfl (by omega) ?_
                            refine aw_mm (fun μ48 e_μ48 => ?_)
                            have hf_μ48 : Fr (sC τ l.length) μ μ48 := by rw [e_μ48]; exact hf_μ47.st (Or.inr (Or.inr ⟨Or.inr (Or.inr rfl), rfl⟩)) _
                            have hp_μ48 : PS g N τ μ48 q39 0 ((cat l) ++ t39) := by rw [e_μ48]; exact hp_μ47.off (by omega)
                            refine aw_aload_n hO dX12_clause_266 rfl rfl ?_
                            refine gM_clauses hO dX12_clause_267 rfl ?_
                            refine aw_aload_n hO dX12_clause_270 rfl rfl ?_
                            refine gM_text hO dX12_clause_271 rfl ?_
                            refine aw_cg hp_μ48.1.2.2.2.1 ?_
                            refine aw_dup2 hO dX12_clause_274 rfl rfl rfl ?_
                            refine aw_ialdn (N := 5) (i := τ) hO dX12_clause_275 rfl (by decide) rfl (by decide) (by omega) (by omega) ?_
                            refine aw_cg ((mst_of (k := 5) (i := τ) e_μ48 (by decide)).trans ((mst_of (k := 5) (i := τ) e_μ47 (by decide)).trans ((mst_of (k := 5) (i := τ) e_μ45 (by decide)).trans ((hf0_μ39.1 5 τ (by unfold sS; omega)).trans ((mst_of (k := 5) (i := τ) e_μ36 (by decide)).trans ((mst_of (k := 5) (i := τ) e_μ11 (by decide)).trans ((mst_of (k := 5) (i := τ) e_μ9 (by decide)).trans ((mst_of (k := 5) (i := τ) e_μ8 (by decide)).trans ((mst_of (k := 5) (i := τ) e_μ6 (by decide)).trans ((mst_of (k := 5) (i := τ) e_μ4 (by decide)).trans ((mst_of (k := 5) (i := τ) e_μ2 (by decide)).trans hC.1))))))))))) ?_
                            refine aw_iconst hO dX12_clause_276 rfl ?_
                            refine aw_iadd hO dX12_clause_277 rfl ?_
                            refine aw_iastn (N := 5) (i := τ) hO dX12_clause_278 rfl (by decide) rfl (by decide) (by omega) (by omega) ?_
                            refine aw_mm (fun μ49 e_μ49 => ?_)
                            have hf_μ49 : Fr (sC τ l.length) μ μ49 := by rw [e_μ49]; exact hf_μ48.st (Or.inr (Or.inl ⟨rfl, rfl⟩)) _
                            have hp_μ49 : PS g N τ μ49 q39 0 ((cat l) ++ t39) := by rw [e_μ49]; exact hp_μ48.off (by omega)
                            refine aw_vret hO dX12_clause_279 ?_
                            have hp9 : PS g N τ μ49 q39 0 (cat (l ++ [((none, t39) : Cl)])) := by rw [cat_app]; exact hp_μ49
                            exact ⟨rfl, hf_μ49, ClO_g ((pCl_s c33 hp1 c64 hp2 c111 c120).trans (by simp only [hx39, Option.not_isSome_iff_eq_none.mp c159, if_true])) u3 hp9 (hC.ext hf_μ49 (mst_at e_μ49) ((mst_of (k := 6) (i := (140 * τ + l.length)) e_μ49 (by decide)).trans ((mst_of (k := 6) (i := (140 * τ + l.length)) e_μ48 (by decide)).trans ((mst_of (k := 6) (i := (140 * τ + l.length)) e_μ47 (by decide)).trans ((mst_of (k := 6) (i := (140 * τ + l.length)) e_μ45 (by decide)).trans ((hf0_μ39.1 6 (140 * τ + l.length) (by unfold sS; omega)).trans ((mst_of (k := 6) (i := (140 * τ + l.length)) e_μ36 (by decide)).trans ((mst_of (k := 6) (i := (140 * τ + l.length)) e_μ11 (by decide)).trans (mst_at e_μ9)))))))) ((((mst_of (k := 7) (i := (140 * τ + l.length)) e_μ49 (by decide)).trans ((mst_of (k := 7) (i := (140 * τ + l.length)) e_μ48 (by decide)).trans (mst_at e_μ47)))).trans (by simp)) ((((mst_of (k := 8) (i := (140 * τ + l.length)) e_μ49 (by decide)).trans (mst_at e_μ48))).trans (by simp [List.length_append])))⟩
                          · exact absurd c197 (by omega)
                        · exact absurd c169 (by omega)
                      · refine aw_iconst hO dX12_clause_162 rfl ?_
                        refine aw_goto (tgt := 167) hO dX12_clause_163 rfl ?_
                        refine aw_istore_n (ls' := [some (vR 0), some (vI (((140 * τ + l.length) : Nat) : Int)), some (vI 1)]) hO dX12_clause_167 rfl (Nat.le_of_ble_eq_true rfl) rfl rfl ?_
                        refine aw_iload_n hO dX12_clause_168 rfl rfl ?_
                        refine aw_if_eq (tgt := 184) hO dX12_clause_169 rfl rfl (inRlit _) (fun c169 => ?_) (fun c169 => ?_)
                        · exact absurd c169 (by omega)
                        · refine aw_aload_n hO dX12_clause_172 rfl rfl ?_
                          refine aw_callVV (as := []) (st := []) hO dX12_clause_173 rfl (lw_t6 226 rfl rfl) kX12_compare (T := TX12) rfl (by decide) rfl (ctM_compare 6 0 rfl g N τ q39 (cat l) t39 μ45 hp_μ45 (by rw [u3]; omega)) (by omega) rfl rfl rfl (Nat.le_of_ble_eq_true rfl) (fun μ51 hq52 => ?_)
                          obtain ⟨hf0_μ51, ho_μ51⟩ := hq52
                          have hf_μ51 : Fr (sC τ l.length) μ μ51 := hf_μ45.tr (hf0_μ51.mono fun _ _ => Or.inl)
                          rcases hx51 : pCmp g 6 (sk g q39) t39 with ⟨q51, _ | t51⟩
                          · have hb_μ51 := (PO_b hx51).mp ho_μ51
                            have hqN51 := hb_μ51.2.1.2
                            refine aw_aload_n hO dX12_clause_176 rfl rfl ?_
                            refine aw_callVV (as := []) (st := []) hO dX12_clause_177 rfl (lw_t6 233 rfl rfl) kX12_goOnAnd (T := TX12) rfl (by decide) rfl (ctM_goOnAndB μ51 hb_μ51) (by omega) rfl rfl rfl (Nat.le_of_ble_eq_true rfl) (fun μ54 hq55 => ?_)
                            subst hq55
                            refine aw_aload_n hO dX12_clause_180 rfl rfl ?_
                            refine aw_callVV (as := []) (st := []) hO dX12_clause_181 rfl (lw_t6 237 rfl rfl) kX12_goOnOr (T := TX12) rfl (by decide) rfl (ctM_goOnOrB μ54 hb_μ51) (by omega) rfl rfl rfl (Nat.le_of_ble_eq_true rfl) (fun μ57 hq58 => ?_)
                            subst hq58
                            refine aw_aload_n hO dX12_clause_184 rfl rfl ?_
                            refine gM_sumFrom hO dX12_clause_185 rfl ?_
                            refine aw_iload_n hO dX12_clause_188 rfl rfl ?_
                            refine aw_aload_n hO dX12_clause_189 rfl rfl ?_
                            refine gM_testFrom hO dX12_clause_190 rfl ?_
                            refine aw_iload_n hO dX12_clause_193 rfl rfl ?_
                            refine aw_ialdn (N := 700) (i := (140 * τ + l.length)) hO dX12_clause_194 rfl (by decide) rfl (by decide) rfl (by omega) ?_
                            refine aw_cg ((hf0_μ51.1 6 (140 * τ + l.length) (by unfold sS; omega)).trans ((mst_of (k := 6) (i := (140 * τ + l.length)) e_μ45 (by decide)).trans ((hf0_μ39.1 6 (140 * τ + l.length) (by unfold sS; omega)).trans ((mst_of (k := 6) (i := (140 * τ + l.length)) e_μ36 (by decide)).trans ((mst_of (k := 6) (i := (140 * τ + l.length)) e_μ11 (by decide)).trans (mst_at e_μ9)))))) ?_
                            refine aw_iastn (N := 700) (i := (140 * τ + l.length)) hO dX12_clause_195 rfl (by decide) rfl (by decide) rfl (by omega) ?_
                            refine aw_mm (fun μ59 e_μ59 => ?_)
                            have hf_μ59 : Fr (sC τ l.length) μ μ59 := by rw [e_μ59]; exact hf_μ51.st (Or.inr (Or.inr ⟨Or.inr (Or.inl rfl), rfl⟩)) _
                            have hb_μ59 := Bd.cast e_μ59 (hb_μ51.off (by omega))
                            refine aw_iload_n hO dX12_clause_196 rfl rfl ?_
                            refine aw_if_eq (tgt := 251) hO dX12_clause_197 rfl rfl (inRlit _) (fun c197 => ?_) (fun c197 => ?_)
                            · exact absurd c197 (by omega)
                            · refine aw_aload_n hO dX12_clause_200 rfl rfl ?_
                              refine gM_wrong hO dX12_clause_201 rfl ?_
                              refine aw_cg hb_μ59.2.1.1 ?_
                              refine aw_iconst hO dX12_clause_204 rfl ?_
                              refine aw_icmp_ne (tgt := 251) hO dX12_clause_205 rfl rfl (inRn (by omega)) (inRlit _) (fun c205 => ?_) (fun c205 => ?_)
                              · refine aw_aload_n hO dX12_clause_251 rfl rfl ?_
                                refine gM_sumTo hO dX12_clause_252 rfl ?_
                                refine aw_iload_n hO dX12_clause_255 rfl rfl ?_
                                refine aw_aload_n hO dX12_clause_256 rfl rfl ?_
                                refine gM_codes hO dX12_clause_257 rfl ?_
                                refine aw_aload_n hO dX12_clause_260 rfl rfl ?_
                                refine gM_text hO dX12_clause_261 rfl ?_
                                refine aw_cg hb_μ59.1.2.2.2.1 ?_
                                refine aw_ialdn (N := 5) (i := τ) hO dX12_clause_264 rfl (by decide) rfl (by decide) (by omega) (by omega) ?_
                                refine aw_iastn (N := 700) (i := (140 * τ + l.length)) hO dX12_clause_265 rfl (by decide) rfl (by decide) rfl (by omega) ?_
                                refine aw_mm (fun μ60 e_μ60 => ?_)
                                have hf_μ60 : Fr (sC τ l.length) μ μ60 := by rw [e_μ60]; exact hf_μ59.st (Or.inr (Or.inr ⟨Or.inr (Or.inr rfl), rfl⟩)) _
                                have hb_μ60 := Bd.cast e_μ60 (hb_μ59.off (by omega))
                                refine aw_aload_n hO dX12_clause_266 rfl rfl ?_
                                refine gM_clauses hO dX12_clause_267 rfl ?_
                                refine aw_aload_n hO dX12_clause_270 rfl rfl ?_
                                refine gM_text hO dX12_clause_271 rfl ?_
                                refine aw_cg hb_μ60.1.2.2.2.1 ?_
                                refine aw_dup2 hO dX12_clause_274 rfl rfl rfl ?_
                                refine aw_ialdn (N := 5) (i := τ) hO dX12_clause_275 rfl (by decide) rfl (by decide) (by omega) (by omega) ?_
                                refine aw_cg ((mst_of (k := 5) (i := τ) e_μ60 (by decide)).trans ((mst_of (k := 5) (i := τ) e_μ59 (by decide)).trans ((hf0_μ51.1 5 τ (by unfold sS; omega)).trans ((mst_of (k := 5) (i := τ) e_μ45 (by decide)).trans ((hf0_μ39.1 5 τ (by unfold sS; omega)).trans ((mst_of (k := 5) (i := τ) e_μ36 (by decide)).trans ((mst_of (k := 5) (i := τ) e_μ11 (by decide)).trans ((mst_of (k := 5) (i := τ) e_μ9 (by decide)).trans ((mst_of (k := 5) (i := τ) e_μ8 (by decide)).trans ((mst_of (k := 5) (i := τ) e_μ6 (by decide)).trans ((mst_of (k := 5) (i := τ) e_μ4 (by decide)).trans ((mst_of (k := 5) (i := τ) e_μ2 (by decide)).trans hC.1)))))))))))) ?_
                                refine aw_iconst hO dX12_clause_276 rfl ?_
                                refine aw_iadd hO dX12_clause_277 rfl ?_
                                refine aw_iastn (N := 5) (i := τ) hO dX12_clause_278 rfl (by decide) rfl (by decide) (by omega) (by omega) ?_
                                refine aw_mm (fun μ61 e_μ61 => ?_)
                                have hf_μ61 : Fr (sC τ l.length) μ μ61 := by rw [e_μ61]; exact hf_μ60.st (Or.inr (Or.inl ⟨rfl, rfl⟩)) _
                                have hb_μ61 := Bd.cast e_μ61 (hb_μ60.off (by omega))
                                refine aw_vret hO dX12_clause_279 ?_
                                exact ⟨rfl, hf_μ61, ClO_b ((pCl_s c33 hp1 c64 hp2 c111 c120).trans (by simp only [hx39]; rw [if_neg (fun e => by rw [e] at c159; exact absurd c159 (by simp))]; exact clB_n (cF_n (by rw [← u3]; exact hx51)))) hb_μ61⟩
                              · exact absurd c205 (by omega)
                          · obtain ⟨b51, hs51, hp_μ51⟩ := (PO_g hx51).mp ho_μ51
                            have hle51 := hp_μ51.le
                            rw [u3] at hx51
                            obtain ⟨v1, v2, v3, v4, v5⟩ := (pCmp_G hG 6 u2 u5).2 q51 t51 hx51
                            refine aw_aload_n hO dX12_clause_176 rfl rfl ?_
                            refine aw_callVV (as := []) (st := []) hO dX12_clause_177 rfl (lw_t6 233 rfl rfl) kX12_goOnAnd (T := TX12) rfl (by decide) rfl (ctM_andU (r := 6) (d := 0) (by omega) (ctM_unit 6 0 rfl) g N τ b51 (cat l) t51 μ51 hp_μ51 (by rw [hs51]; omega)) (by omega) rfl rfl rfl (Nat.le_of_ble_eq_true rfl) (fun μ63 hq64 => ?_)
                            obtain ⟨hf0_μ63, ho_μ63⟩ := hq64
                            have hf_μ63 : Fr (sC τ l.length) μ μ63 := hf_μ51.tr (hf0_μ63.mono fun _ _ => Or.inl)
                            rcases hx63 : rest g (pUnit g 6) sepN 241 (sk g b51) t51 with ⟨q63, _ | t63⟩
                            · have hb_μ63 := (PO_b hx63).mp ho_μ63
                              have hqN63 := hb_μ63.2.1.2
                              refine aw_aload_n hO dX12_clause_180 rfl rfl ?_
                              refine aw_callVV (as := []) (st := []) hO dX12_clause_181 rfl (lw_t6 237 rfl rfl) kX12_goOnOr (T := TX12) rfl (by decide) rfl (ctM_goOnOrB μ63 hb_μ63) (by omega) rfl rfl rfl (Nat.le_of_ble_eq_true rfl) (fun μ66 hq67 => ?_)
                              subst hq67
                              refine aw_aload_n hO dX12_clause_184 rfl rfl ?_
                              refine gM_sumFrom hO dX12_clause_185 rfl ?_
                              refine aw_iload_n hO dX12_clause_188 rfl rfl ?_
                              refine aw_aload_n hO dX12_clause_189 rfl rfl ?_
                              refine gM_testFrom hO dX12_clause_190 rfl ?_
                              refine aw_iload_n hO dX12_clause_193 rfl rfl ?_
                              refine aw_ialdn (N := 700) (i := (140 * τ + l.length)) hO dX12_clause_194 rfl (by decide) rfl (by decide) rfl (by omega) ?_
                              refine aw_cg ((hf0_μ63.1 6 (140 * τ + l.length) (by unfold sS; omega)).trans ((hf0_μ51.1 6 (140 * τ + l.length) (by unfold sS; omega)).trans ((mst_of (k := 6) (i := (140 * τ + l.length)) e_μ45 (by decide)).trans ((hf0_μ39.1 6 (140 * τ + l.length) (by unfold sS; omega)).trans ((mst_of (k := 6) (i := (140 * τ + l.length)) e_μ36 (by decide)).trans ((mst_of (k := 6) (i := (140 * τ + l.length)) e_μ11 (by decide)).trans (mst_at e_μ9))))))) ?_
                              refine aw_iastn (N := 700) (i := (140 * τ + l.length)) hO dX12_clause_195 rfl (by decide) rfl (by decide) rfl (by omega) ?_
                              refine aw_mm (fun μ68 e_μ68 => ?_)
                              have hf_μ68 : Fr (sC τ l.length) μ μ68 := by rw [e_μ68]; exact hf_μ63.st (Or.inr (Or.inr ⟨Or.inr (Or.inl rfl), rfl⟩)) _
                              have hb_μ68 := Bd.cast e_μ68 (hb_μ63.off (by omega))
                              refine aw_iload_n hO dX12_clause_196 rfl rfl ?_
                              refine aw_if_eq (tgt := 251) hO dX12_clause_197 rfl rfl (inRlit _) (fun c197 => ?_) (fun c197 => ?_)
                              · exact absurd c197 (by omega)
                              · refine aw_aload_n hO dX12_clause_200 rfl rfl ?_
                                refine gM_wrong hO dX12_clause_201 rfl ?_
                                refine aw_cg hb_μ68.2.1.1 ?_
                                refine aw_iconst hO dX12_clause_204 rfl ?_
                                refine aw_icmp_ne (tgt := 251) hO dX12_clause_205 rfl rfl (inRn (by omega)) (inRlit _) (fun c205 => ?_) (fun c205 => ?_)
                                · refine aw_aload_n hO dX12_clause_251 rfl rfl ?_
                                  refine gM_sumTo hO dX12_clause_252 rfl ?_
                                  refine aw_iload_n hO dX12_clause_255 rfl rfl ?_
                                  refine aw_aload_n hO dX12_clause_256 rfl rfl ?_
                                  refine gM_codes hO dX12_clause_257 rfl ?_
                                  refine aw_aload_n hO dX12_clause_260 rfl rfl ?_
                                  refine gM_text hO dX12_clause_261 rfl ?_
                                  refine aw_cg hb_μ68.1.2.2.2.1 ?_
                                  refine aw_ialdn (N := 5) (i := τ) hO dX12_clause_264 rfl (by decide) rfl (by decide) (by omega) (by omega) ?_
                                  refine aw_iastn (N := 700) (i := (140 * τ + l.length)) hO dX12_clause_265 rfl (by decide) rfl (by decide) rfl (by omega) ?_
                                  refine aw_mm (fun μ69 e_μ69 => ?_)
                                  have hf_μ69 : Fr (sC τ l.length) μ μ69 := by rw [e_μ69]; exact hf_μ68.st (Or.inr (Or.inr ⟨Or.inr (Or.inr rfl), rfl⟩)) _
                                  have hb_μ69 := Bd.cast e_μ69 (hb_μ68.off (by omega))
                                  refine aw_aload_n hO dX12_clause_266 rfl rfl ?_
                                  refine gM_clauses hO dX12_clause_267 rfl ?_
                                  refine aw_aload_n hO dX12_clause_270 rfl rfl ?_
                                  refine gM_text hO dX12_clause_271 rfl ?_
                                  refine aw_cg hb_μ69.1.2.2.2.1 ?_
                                  refine aw_dup2 hO dX12_clause_274 rfl rfl rfl ?_
                                  refine aw_ialdn (N := 5) (i := τ) hO dX12_clause_275 rfl (by decide) rfl (by decide) (by omega) (by omega) ?_
                                  refine aw_cg ((mst_of (k := 5) (i := τ) e_μ69 (by decide)).trans ((mst_of (k := 5) (i := τ) e_μ68 (by decide)).trans ((hf0_μ63.1 5 τ (by unfold sS; omega)).trans ((hf0_μ51.1 5 τ (by unfold sS; omega)).trans ((mst_of (k := 5) (i := τ) e_μ45 (by decide)).trans ((hf0_μ39.1 5 τ (by unfold sS; omega)).trans ((mst_of (k := 5) (i := τ) e_μ36 (by decide)).trans ((mst_of (k := 5) (i := τ) e_μ11 (by decide)).trans ((mst_of (k := 5) (i := τ) e_μ9 (by decide)).trans ((mst_of (k := 5) (i := τ) e_μ8 (by decide)).trans ((mst_of (k := 5) (i := τ) e_μ6 (by decide)).trans ((mst_of (k := 5) (i := τ) e_μ4 (by decide)).trans ((mst_of (k := 5) (i := τ) e_μ2 (by decide)).trans hC.1))))))))))))) ?_
                                  refine aw_iconst hO dX12_clause_276 rfl ?_
                                  refine aw_iadd hO dX12_clause_277 rfl ?_
                                  refine aw_iastn (N := 5) (i := τ) hO dX12_clause_278 rfl (by decide) rfl (by decide) (by omega) (by omega) ?_
                                  refine aw_mm (fun μ70 e_μ70 => ?_)
                                  have hf_μ70 : Fr (sC τ l.length) μ μ70 := by rw [e_μ70]; exact hf_μ69.st (Or.inr (Or.inl ⟨rfl, rfl⟩)) _
                                  have hb_μ70 := Bd.cast e_μ70 (hb_μ69.off (by omega))
                                  refine aw_vret hO dX12_clause_279 ?_
                                  exact ⟨rfl, hf_μ70, ClO_b ((pCl_s c33 hp1 c64 hp2 c111 c120).trans (by simp only [hx39]; rw [if_neg (fun e => by rw [e] at c159; exact absurd c159 (by simp))]; exact clB_n (cF_b hx51 (by rw [← hs51]; exact hx63)))) hb_μ70⟩
                                · exact absurd c205 (by omega)
                            · obtain ⟨b63, hs63, hp_μ63⟩ := (PO_g hx63).mp ho_μ63
                              have hle63 := hp_μ63.le
                              rw [hs51] at hx63
                              obtain ⟨x1, x2, x3, x4, x5⟩ := (restN_G hG v2 v3 v5).2 q63 t63 hx63
                              refine aw_aload_n hO dX12_clause_180 rfl rfl ?_
                              refine aw_callVV (as := []) (st := []) hO dX12_clause_181 rfl (lw_t6 237 rfl rfl) kX12_goOnOr (T := TX12) rfl (by decide) rfl (ctM_orU (r := 6) (d := 0) (by omega) (ctM_unit 6 0 rfl) g N τ b63 (cat l) t63 μ63 hp_μ63 (by rw [hs63]; omega)) (by omega) rfl rfl rfl (Nat.le_of_ble_eq_true rfl) (fun μ72 hq73 => ?_)
                              obtain ⟨hf0_μ72, ho_μ72⟩ := hq73
                              have hf_μ72 : Fr (sC τ l.length) μ μ72 := hf_μ63.tr (hf0_μ72.mono fun _ _ => Or.inl)
                              rcases hx72 : rest g (chn g (pUnit g 6) sepN) sepO 241 (sk g b63) t63 with ⟨q72, _ | t72⟩
                              · have hb_μ72 := (PO_b hx72).mp ho_μ72
                                have hqN72 := hb_μ72.2.1.2
                                refine aw_aload_n hO dX12_clause_184 rfl rfl ?_
                                refine gM_sumFrom hO dX12_clause_185 rfl ?_
                                refine aw_iload_n hO dX12_clause_188 rfl rfl ?_
                                refine aw_aload_n hO dX12_clause_189 rfl rfl ?_
                                refine gM_testFrom hO dX12_clause_190 rfl ?_
                                refine aw_iload_n hO dX12_clause_193 rfl rfl ?_
                                refine aw_ialdn (N := 700) (i := (140 * τ + l.length)) hO dX12_clause_194 rfl (by decide) rfl (by decide) rfl (by omega) ?_
                                refine aw_cg ((hf0_μ72.1 6 (140 * τ + l.length) (by unfold sS; omega)).trans ((hf0_μ63.1 6 (140 * τ + l.length) (by unfold sS; omega)).trans ((hf0_μ51.1 6 (140 * τ + l.length) (by unfold sS; omega)).trans ((mst_of (k := 6) (i := (140 * τ + l.length)) e_μ45 (by decide)).trans ((hf0_μ39.1 6 (140 * τ + l.length) (by unfold sS; omega)).trans ((mst_of (k := 6) (i := (140 * τ + l.length)) e_μ36 (by decide)).trans ((mst_of (k := 6) (i := (140 * τ + l.length)) e_μ11 (by decide)).trans (mst_at e_μ9)))))))) ?_
                                refine aw_iastn (N := 700) (i := (140 * τ + l.length)) hO dX12_clause_195 rfl (by decide) rfl (by decide) rfl (by omega) ?_
                                refine aw_mm (fun μ74 e_μ74 => ?_)
                                have hf_μ74 : Fr (sC τ l.length) μ μ74 := by rw [e_μ74]; exact hf_μ72.st (Or.inr (Or.inr ⟨Or.inr (Or.inl rfl), rfl⟩)) _
                                have hb_μ74 := Bd.cast e_μ74 (hb_μ72.off (by omega))
                                refine aw_iload_n hO dX12_clause_196 rfl rfl ?_
                                refine aw_if_eq (tgt := 251) hO dX12_clause_197 rfl rfl (inRlit _) (fun c197 => ?_) (fun c197 => ?_)
                                · exact absurd c197 (by omega)
                                · refine aw_aload_n hO dX12_clause_200 rfl rfl ?_
                                  refine gM_wrong hO dX12_clause_201 rfl ?_
                                  refine aw_cg hb_μ74.2.1.1 ?_
                                  refine aw_iconst hO dX12_clause_204 rfl ?_
                                  refine aw_icmp_ne (tgt := 251) hO dX12_clause_205 rfl rfl (inRn (by omega)) (inRlit _) (fun c205 => ?_) (fun c205 => ?_)
                                  · refine aw_aload_n hO dX12_clause_251 rfl rfl ?_
                                    refine gM_sumTo hO dX12_clause_252 rfl ?_
                                    refine aw_iload_n hO dX12_clause_255 rfl rfl ?_
                                    refine aw_aload_n hO dX12_clause_256 rfl rfl ?_
                                    refine gM_codes hO dX12_clause_257 rfl ?_
                                    refine aw_aload_n hO dX12_clause_260 rfl rfl ?_
                                    refine gM_text hO dX12_clause_261 rfl ?_
                                    refine aw_cg hb_μ74.1.2.2.2.1 ?_
                                    refine aw_ialdn (N := 5) (i := τ) hO dX12_clause_264 rfl (by decide) rfl (by decide) (by omega) (by omega) ?_
                                    refine aw_iastn (N := 700) (i := (140 * τ + l.length)) hO dX12_clause_265 rfl (by decide) rfl (by decide) rfl (by omega) ?_
                                    refine aw_mm (fun μ75 e_μ75 => ?_)
                                    have hf_μ75 : Fr (sC τ l.length) μ μ75 := by rw [e_μ75]; exact hf_μ74.st (Or.inr (Or.inr ⟨Or.inr (Or.inr rfl), rfl⟩)) _
                                    have hb_μ75 := Bd.cast e_μ75 (hb_μ74.off (by omega))
                                    refine aw_aload_n hO dX12_clause_266 rfl rfl ?_
                                    refine gM_clauses hO dX12_clause_267 rfl ?_
                                    refine aw_aload_n hO dX12_clause_270 rfl rfl ?_
                                    refine gM_text hO dX12_clause_271 rfl ?_
                                    refine aw_cg hb_μ75.1.2.2.2.1 ?_
                                    refine aw_dup2 hO dX12_clause_274 rfl rfl rfl ?_
                                    refine aw_ialdn (N := 5) (i := τ) hO dX12_clause_275 rfl (by decide) rfl (by decide) (by omega) (by omega) ?_
                                    refine aw_cg ((mst_of (k := 5) (i := τ) e_μ75 (by decide)).trans ((mst_of (k := 5) (i := τ) e_μ74 (by decide)).trans ((hf0_μ72.1 5 τ (by unfold sS; omega)).trans ((hf0_μ63.1 5 τ (by unfold sS; omega)).trans ((hf0_μ51.1 5 τ (by unfold sS; omega)).trans ((mst_of (k := 5) (i := τ) e_μ45 (by decide)).trans ((hf0_μ39.1 5 τ (by unfold sS; omega)).trans ((mst_of (k := 5) (i := τ) e_μ36 (by decide)).trans ((mst_of (k := 5) (i := τ) e_μ11 (by decide)).trans ((mst_of (k := 5) (i := τ) e_μ9 (by decide)).trans ((mst_of (k := 5) (i := τ) e_μ8 (by decide)).trans ((mst_of (k := 5) (i := τ) e_μ6 (by decide)).trans ((mst_of (k := 5) (i := τ) e_μ4 (by decide)).trans ((mst_of (k := 5) (i := τ) e_μ2 (by decide)).trans hC.1)))))))))))))) ?_
                                    refine aw_iconst hO dX12_clause_276 rfl ?_
                                    refine aw_iadd hO dX12_clause_277 rfl ?_
                                    refine aw_iastn (N := 5) (i := τ) hO dX12_clause_278 rfl (by decide) rfl (by decide) (by omega) (by omega) ?_
                                    refine aw_mm (fun μ76 e_μ76 => ?_)
                                    have hf_μ76 : Fr (sC τ l.length) μ μ76 := by rw [e_μ76]; exact hf_μ75.st (Or.inr (Or.inl ⟨rfl, rfl⟩)) _
                                    have hb_μ76 := Bd.cast e_μ76 (hb_μ75.off (by omega))
                                    refine aw_vret hO dX12_clause_279 ?_
                                    exact ⟨rfl, hf_μ76, ClO_b ((pCl_s c33 hp1 c64 hp2 c111 c120).trans (by simp only [hx39]; rw [if_neg (fun e => by rw [e] at c159; exact absurd c159 (by simp))]; exact clB_n ((cF_g hx51 hx63).trans (by rw [← hs63]; exact hx72)))) hb_μ76⟩
                                  · exact absurd c205 (by omega)
                              · obtain ⟨b72, hs72, hp_μ72⟩ := (PO_g hx72).mp ho_μ72
                                have hle72 := hp_μ72.le
                                rw [hs63] at hx72
                                obtain ⟨y1, y2, y3, y4, y5⟩ := (restO_G hG x2 x3 x5).2 q72 t72 hx72
                                refine aw_aload_n hO dX12_clause_184 rfl rfl ?_
                                refine gM_sumFrom hO dX12_clause_185 rfl ?_
                                refine aw_iload_n hO dX12_clause_188 rfl rfl ?_
                                refine aw_aload_n hO dX12_clause_189 rfl rfl ?_
                                refine gM_testFrom hO dX12_clause_190 rfl ?_
                                refine aw_iload_n hO dX12_clause_193 rfl rfl ?_
                                refine aw_ialdn (N := 700) (i := (140 * τ + l.length)) hO dX12_clause_194 rfl (by decide) rfl (by decide) rfl (by omega) ?_
                                refine aw_cg ((hf0_μ72.1 6 (140 * τ + l.length) (by unfold sS; omega)).trans ((hf0_μ63.1 6 (140 * τ + l.length) (by unfold sS; omega)).trans ((hf0_μ51.1 6 (140 * τ + l.length) (by unfold sS; omega)).trans ((mst_of (k := 6) (i := (140 * τ + l.length)) e_μ45 (by decide)).trans ((hf0_μ39.1 6 (140 * τ + l.length) (by unfold sS; omega)).trans ((mst_of (k := 6) (i := (140 * τ + l.length)) e_μ36 (by decide)).trans ((mst_of (k := 6) (i := (140 * τ + l.length)) e_μ11 (by decide)).trans (mst_at e_μ9)))))))) ?_
                                refine aw_iastn (N := 700) (i := (140 * τ + l.length)) hO dX12_clause_195 rfl (by decide) rfl (by decide) rfl (by omega) ?_
                                refine aw_mm (fun μ77 e_μ77 => ?_)
                                have hf_μ77 : Fr (sC τ l.length) μ μ77 := by rw [e_μ77]; exact hf_μ72.st (Or.inr (Or.inr ⟨Or.inr (Or.inl rfl), rfl⟩)) _
                                have hp_μ77 : PS g N τ μ77 b72 0 ((cat l) ++ t72) := by rw [e_μ77]; exact hp_μ72.off (by omega)
                                refine aw_iload_n hO dX12_clause_196 rfl rfl ?_
                                refine aw_if_eq (tgt := 251) hO dX12_clause_197 rfl rfl (inRlit _) (fun c197 => ?_) (fun c197 => ?_)
                                · exact absurd c197 (by omega)
                                · refine aw_aload_n hO dX12_clause_200 rfl rfl ?_
                                  refine gM_wrong hO dX12_clause_201 rfl ?_
                                  refine aw_cg hp_μ77.wr ?_
                                  refine aw_iconst hO dX12_clause_204 rfl ?_
                                  refine aw_icmp_ne (tgt := 251) hO dX12_clause_205 rfl rfl (inRlit _) (inRlit _) (fun c205 => ?_) (fun c205 => ?_)
                                  · exact absurd c205 (by omega)
                                  · refine aw_aload_n hO dX12_clause_208 rfl rfl ?_
                                    refine aw_callVE (as := []) (st := []) hO dX12_clause_209 rfl (lw_t6 140 rfl rfl) kX12_look (T := TX12) rfl (by decide) rfl (ctM_look μ77 hp_μ77.1 hp_μ77.at hp_μ77.le) (by omega) rfl rfl rfl (Nat.le_of_ble_eq_true rfl) (fun v78 μ79 hq80 => ?_)
                                    obtain ⟨e_v78, e_μ79⟩ := hq80
                                    subst e_v78
                                    have hp_μ79 := hp_μ77.look
                                    rw [← e_μ79] at hp_μ79
                                    have hf_μ79 : Fr (sC τ l.length) μ μ79 := by rw [e_μ79]; exact hf_μ77.st (Or.inl sS_at) _
                                    have hr_μ79 := hp_μ77.G.rng (sk g b72)
                                    rw [hs72] at hp_μ79 hr_μ79 ⊢
                                    refine aw_bipush hO dX12_clause_212 rfl (by decide) (by decide) ?_
                                    refine aw_icmp_eq (tgt := 222) hO dX12_clause_214 rfl rfl ⟨by omega, by omega⟩ (inRlit _) (fun c214 => ?_) (fun c214 => ?_)
                                    · have hltq := hG.lt (p := q72) (by omega)
                                      refine aw_aload_n hO dX12_clause_222 rfl rfl ?_
                                      refine aw_dup hO dX12_clause_223 rfl rfl ?_
                                      refine gM_at hO dX12_clause_224 rfl ?_
                                      refine aw_cg hp_μ79.at ?_
                                      refine aw_iconst hO dX12_clause_227 rfl ?_
                                      refine aw_iadd hO dX12_clause_228 rfl ?_
                                      refine pM_at hO dX12_clause_229 rfl ?_
                                      refine aw_mm (fun μ81 e_μ81 => ?_)
                                      have hf_μ81 : Fr (sC τ l.length) μ μ81 := by rw [e_μ81]; exact hf_μ79.st (Or.inl sS_at) _
                                      have hp_μ81 := hp_μ79.to (b := (q72 + 1)) (by omega)
                                      rw [show (((q72 + 1) : Nat) : Int) = ((q72 : Nat) : Int) + 1 from rfl, ← e_μ81] at hp_μ81
                                      refine aw_aload_n hO dX12_clause_232 rfl rfl ?_
                                      refine gM_sumFrom hO dX12_clause_233 rfl ?_
                                      refine aw_iload_n hO dX12_clause_236 rfl rfl ?_
                                      refine aw_aload_n hO dX12_clause_237 rfl rfl ?_
                                      refine gM_codes hO dX12_clause_238 rfl ?_
                                      refine aw_aload_n hO dX12_clause_241 rfl rfl ?_
                                      refine gM_text hO dX12_clause_242 rfl ?_
                                      refine aw_cg hp_μ81.1.2.2.2.1 ?_
                                      refine aw_ialdn (N := 5) (i := τ) hO dX12_clause_245 rfl (by decide) rfl (by decide) (by omega) (by omega) ?_
                                      refine aw_cg hp_μ81.co ?_
                                      refine aw_iastn (N := 700) (i := (140 * τ + l.length)) hO dX12_clause_246 rfl (by decide) rfl (by decide) rfl (by omega) ?_
                                      refine aw_mm (fun μ82 e_μ82 => ?_)
                                      have hf_μ82 : Fr (sC τ l.length) μ μ82 := by rw [e_μ82]; exact hf_μ81.st (Or.inr (Or.inr ⟨Or.inr (Or.inl rfl), rfl⟩)) _
                                      have hp_μ82 : PS g N τ μ82 (q72 + 1) 0 ((cat l) ++ t72) := by rw [e_μ82]; exact hp_μ81.off (by omega)
                                      refine aw_aload_n hO dX12_clause_247 rfl rfl ?_
                                      refine aw_callVV (as := []) (st := []) hO dX12_clause_248 rfl (lw_t6 207 rfl rfl) kX12_sum (T := TX12) rfl (by decide) rfl (ctM_sum 6 0 rfl g N τ (q72 + 1) (cat l ++ t72) μ82 hp_μ82 (by have := sk_ge g (q72 + 1); rw [List.length_append]; omega)) (by omega) rfl rfl rfl (Nat.le_of_ble_eq_true rfl) (fun μ84 hq85 => ?_)
                                      obtain ⟨hf0_μ84, ho_μ84⟩ := hq85
                                      have hf_μ84 : Fr (sC τ l.length) μ μ84 := hf_μ82.tr (hf0_μ84.mono fun _ _ => Or.inl)
                                      rcases hx84 : pSum g 6 (sk g (q72 + 1)) with ⟨q84, _ | t84⟩
                                      · have hb_μ84 := (PO_b hx84).mp ho_μ84
                                        have hqN84 := hb_μ84.2.1.2
                                        refine aw_aload_n hO dX12_clause_251 rfl rfl ?_
                                        refine gM_sumTo hO dX12_clause_252 rfl ?_
                                        refine aw_iload_n hO dX12_clause_255 rfl rfl ?_
                                        refine aw_aload_n hO dX12_clause_256 rfl rfl ?_
                                        refine gM_codes hO dX12_clause_257 rfl ?_
                                        refine aw_aload_n hO dX12_clause_260 rfl rfl ?_
                                        refine gM_text hO dX12_clause_261 rfl ?_
                                        refine aw_cg hb_μ84.1.2.2.2.1 ?_
                                        refine aw_ialdn (N := 5) (i := τ) hO dX12_clause_264 rfl (by decide) rfl (by decide) (by omega) (by omega) ?_
                                        refine aw_iastn (N := 700) (i := (140 * τ + l.length)) hO dX12_clause_265 rfl (by decide) rfl (by decide) rfl (by omega) ?_
                                        refine aw_mm (fun μ86 e_μ86 => ?_)
                                        have hf_μ86 : Fr (sC τ l.length) μ μ86 := by rw [e_μ86]; exact hf_μ84.st (Or.inr (Or.inr ⟨Or.inr (Or.inr rfl), rfl⟩)) _
                                        have hb_μ86 := Bd.cast e_μ86 (hb_μ84.off (by omega))
                                        refine aw_aload_n hO dX12_clause_266 rfl rfl ?_
                                        refine gM_clauses hO dX12_clause_267 rfl ?_
                                        refine aw_aload_n hO dX12_clause_270 rfl rfl ?_
                                        refine gM_text hO dX12_clause_271 rfl ?_
                                        refine aw_cg hb_μ86.1.2.2.2.1 ?_
                                        refine aw_dup2 hO dX12_clause_274 rfl rfl rfl ?_
                                        refine aw_ialdn (N := 5) (i := τ) hO dX12_clause_275 rfl (by decide) rfl (by decide) (by omega) (by omega) ?_
                                        refine aw_cg ((mst_of (k := 5) (i := τ) e_μ86 (by decide)).trans ((hf0_μ84.1 5 τ (by unfold sS; omega)).trans ((mst_of (k := 5) (i := τ) e_μ82 (by decide)).trans ((mst_of (k := 5) (i := τ) e_μ81 (by decide)).trans ((mst_of (k := 5) (i := τ) e_μ79 (by decide)).trans ((mst_of (k := 5) (i := τ) e_μ77 (by decide)).trans ((hf0_μ72.1 5 τ (by unfold sS; omega)).trans ((hf0_μ63.1 5 τ (by unfold sS; omega)).trans ((hf0_μ51.1 5 τ (by unfold sS; omega)).trans ((mst_of (k := 5) (i := τ) e_μ45 (by decide)).trans ((hf0_μ39.1 5 τ (by unfold sS; omega)).trans ((mst_of (k := 5) (i := τ) e_μ36 (by decide)).trans ((mst_of (k := 5) (i := τ) e_μ11 (by decide)).trans ((mst_of (k := 5) (i := τ) e_μ9 (by decide)).trans ((mst_of (k := 5) (i := τ) e_μ8 (by decide)).trans ((mst_of (k := 5) (i := τ) e_μ6 (by decide)).trans ((mst_of (k := 5) (i := τ) e_μ4 (by decide)).trans ((mst_of (k := 5) (i := τ) e_μ2 (by decide)).trans hC.1)))))))))))))))))) ?_
                                        refine aw_iconst hO dX12_clause_276 rfl ?_
                                        refine aw_iadd hO dX12_clause_277 rfl ?_
                                        refine aw_iastn (N := 5) (i := τ) hO dX12_clause_278 rfl (by decide) rfl (by decide) (by omega) (by omega) ?_
                                        refine aw_mm (fun μ87 e_μ87 => ?_)
                                        have hf_μ87 : Fr (sC τ l.length) μ μ87 := by rw [e_μ87]; exact hf_μ86.st (Or.inr (Or.inl ⟨rfl, rfl⟩)) _
                                        have hb_μ87 := Bd.cast e_μ87 (hb_μ86.off (by omega))
                                        refine aw_vret hO dX12_clause_279 ?_
                                        exact ⟨rfl, hf_μ87, ClO_b ((pCl_s c33 hp1 c64 hp2 c111 c120).trans (by simp only [hx39]; rw [if_neg (fun e => by rw [e] at c159; exact absurd c159 (by simp))]; exact clB_b ((cF_g hx51 hx63).trans hx72) c214 hx84)) hb_μ87⟩
                                      · obtain ⟨b84, hs84, hp_μ84⟩ := (PO_g hx84).mp ho_μ84
                                        have hle84 := hp_μ84.le
                                        refine aw_aload_n hO dX12_clause_251 rfl rfl ?_
                                        refine gM_sumTo hO dX12_clause_252 rfl ?_
                                        refine aw_iload_n hO dX12_clause_255 rfl rfl ?_
                                        refine aw_aload_n hO dX12_clause_256 rfl rfl ?_
                                        refine gM_codes hO dX12_clause_257 rfl ?_
                                        refine aw_aload_n hO dX12_clause_260 rfl rfl ?_
                                        refine gM_text hO dX12_clause_261 rfl ?_
                                        refine aw_cg hp_μ84.1.2.2.2.1 ?_
                                        refine aw_ialdn (N := 5) (i := τ) hO dX12_clause_264 rfl (by decide) rfl (by decide) (by omega) (by omega) ?_
                                        refine aw_cg hp_μ84.co ?_
                                        refine aw_iastn (N := 700) (i := (140 * τ + l.length)) hO dX12_clause_265 rfl (by decide) rfl (by decide) rfl (by omega) ?_
                                        refine aw_mm (fun μ88 e_μ88 => ?_)
                                        have hf_μ88 : Fr (sC τ l.length) μ μ88 := by rw [e_μ88]; exact hf_μ84.st (Or.inr (Or.inr ⟨Or.inr (Or.inr rfl), rfl⟩)) _
                                        have hp_μ88 : PS g N τ μ88 b84 0 ((cat l ++ t72) ++ t84) := by rw [e_μ88]; exact hp_μ84.off (by omega)
                                        refine aw_aload_n hO dX12_clause_266 rfl rfl ?_
                                        refine gM_clauses hO dX12_clause_267 rfl ?_
                                        refine aw_aload_n hO dX12_clause_270 rfl rfl ?_
                                        refine gM_text hO dX12_clause_271 rfl ?_
                                        refine aw_cg hp_μ88.1.2.2.2.1 ?_
                                        refine aw_dup2 hO dX12_clause_274 rfl rfl rfl ?_
                                        refine aw_ialdn (N := 5) (i := τ) hO dX12_clause_275 rfl (by decide) rfl (by decide) (by omega) (by omega) ?_
                                        refine aw_cg ((mst_of (k := 5) (i := τ) e_μ88 (by decide)).trans ((hf0_μ84.1 5 τ (by unfold sS; omega)).trans ((mst_of (k := 5) (i := τ) e_μ82 (by decide)).trans ((mst_of (k := 5) (i := τ) e_μ81 (by decide)).trans ((mst_of (k := 5) (i := τ) e_μ79 (by decide)).trans ((mst_of (k := 5) (i := τ) e_μ77 (by decide)).trans ((hf0_μ72.1 5 τ (by unfold sS; omega)).trans ((hf0_μ63.1 5 τ (by unfold sS; omega)).trans ((hf0_μ51.1 5 τ (by unfold sS; omega)).trans ((mst_of (k := 5) (i := τ) e_μ45 (by decide)).trans ((hf0_μ39.1 5 τ (by unfold sS; omega)).trans ((mst_of (k := 5) (i := τ) e_μ36 (by decide)).trans ((mst_of (k := 5) (i := τ) e_μ11 (by decide)).trans ((mst_of (k := 5) (i := τ) e_μ9 (by decide)).trans ((mst_of (k := 5) (i := τ) e_μ8 (by decide)).trans ((mst_of (k := 5) (i := τ) e_μ6 (by decide)).trans ((mst_of (k := 5) (i := τ) e_μ4 (by decide)).trans ((mst_of (k := 5) (i := τ) e_μ2 (by decide)).trans hC.1)))))))))))))))))) ?_
                                        refine aw_iconst hO dX12_clause_276 rfl ?_
                                        refine aw_iadd hO dX12_clause_277 rfl ?_
                                        refine aw_iastn (N := 5) (i := τ) hO dX12_clause_278 rfl (by decide) rfl (by decide) (by omega) (by omega) ?_
                                        refine aw_mm (fun μ89 e_μ89 => ?_)
                                        have hf_μ89 : Fr (sC τ l.length) μ μ89 := by rw [e_μ89]; exact hf_μ88.st (Or.inr (Or.inl ⟨rfl, rfl⟩)) _
                                        have hp_μ89 : PS g N τ μ89 b84 0 ((cat l ++ t72) ++ t84) := by rw [e_μ89]; exact hp_μ88.off (by omega)
                                        refine aw_vret hO dX12_clause_279 ?_
                                        have hp9 : PS g N τ μ89 b84 0 (cat (l ++ [((some t72, t84) : Cl)])) := by rw [cat_app]; have hq9 := hp_μ89; rw [List.append_assoc] at hq9; exact hq9
                                        exact ⟨rfl, hf_μ89, ClO_g ((pCl_s c33 hp1 c64 hp2 c111 c120).trans (by simp only [hx39]; rw [if_neg (fun e => by rw [e] at c159; exact absurd c159 (by simp))]; exact clB_g ((cF_g hx51 hx63).trans hx72) c214 hx84)) hs84 hp9 (hC.ext hf_μ89 (mst_at e_μ89) ((mst_of (k := 6) (i := (140 * τ + l.length)) e_μ89 (by decide)).trans ((mst_of (k := 6) (i := (140 * τ + l.length)) e_μ88 (by decide)).trans ((hf0_μ84.1 6 (140 * τ + l.length) (by unfold sS; omega)).trans ((mst_of (k := 6) (i := (140 * τ + l.length)) e_μ82 (by decide)).trans ((mst_of (k := 6) (i := (140 * τ + l.length)) e_μ81 (by decide)).trans ((mst_of (k := 6) (i := (140 * τ + l.length)) e_μ79 (by decide)).trans ((mst_of (k := 6) (i := (140 * τ + l.length)) e_μ77 (by decide)).trans ((hf0_μ72.1 6 (140 * τ + l.length) (by unfold sS; omega)).trans ((hf0_μ63.1 6 (140 * τ + l.length) (by unfold sS; omega)).trans ((hf0_μ51.1 6 (140 * τ + l.length) (by unfold sS; omega)).trans ((mst_of (k := 6) (i := (140 * τ + l.length)) e_μ45 (by decide)).trans ((hf0_μ39.1 6 (140 * τ + l.length) (by unfold sS; omega)).trans ((mst_of (k := 6) (i := (140 * τ + l.length)) e_μ36 (by decide)).trans ((mst_of (k := 6) (i := (140 * τ + l.length)) e_μ11 (by decide)).trans (mst_at e_μ9))))))))))))))) ((((mst_of (k := 7) (i := (140 * τ + l.length)) e_μ89 (by decide)).trans ((mst_of (k := 7) (i := (140 * τ + l.length)) e_μ88 (by decide)).trans ((hf0_μ84.1 7 (140 * τ + l.length) (by unfold sS; omega)).trans (mst_at e_μ82))))).trans (by simp [List.length_append])) ((((mst_of (k := 8) (i := (140 * τ + l.length)) e_μ89 (by decide)).trans (mst_at e_μ88))).trans (by simp [List.length_append]; omega)))⟩
                                    · refine aw_aload_n hO dX12_clause_217 rfl rfl ?_
                                      have hlenb : (((cat l) ++ t72)).length ≤ 400 := by first | omega | (simp only [List.length_append]; omega)
                                      refine aw_callVV (as := []) (st := []) hO dX12_clause_218 rfl (lw_t6 168 rfl rfl) kX12_bad (T := TX12) rfl (by decide) rfl (ctM_bad μ79 hp_μ79.at hp_μ79.wr) (by omega) rfl rfl rfl (Nat.le_of_ble_eq_true rfl) (fun μ91 hq92 => ?_)
                                      have hb_μ91 := hp_μ79.bad (B := B) (by omega)
                                      rw [← hq92] at hb_μ91
                                      have hf_μ91 : Fr (sC τ l.length) μ μ91 := by rw [hq92]; exact hf_μ79.st (Or.inl sS_wr) _
                                      refine aw_vret hO dX12_clause_221 ?_
                                      exact ⟨rfl, hf_μ91, ClO_b ((pCl_s c33 hp1 c64 hp2 c111 c120).trans (by simp only [hx39]; rw [if_neg (fun e => by rw [e] at c159; exact absurd c159 (by simp))]; exact clB_q ((cF_g hx51 hx63).trans hx72) c214)) hb_μ91⟩
                · exact absurd c130 (by omega)
              · refine aw_iconst hO dX12_clause_123 rfl ?_
                refine aw_goto (tgt := 128) hO dX12_clause_124 rfl ?_
                refine aw_istore_n (ls' := [some (vR 0), some (vI (((140 * τ + l.length) : Nat) : Int)), some (vI 1)]) hO dX12_clause_128 rfl (Nat.le_of_ble_eq_true rfl) rfl rfl ?_
                refine aw_iload_n hO dX12_clause_129 rfl rfl ?_
                refine aw_if_eq (tgt := 140) hO dX12_clause_130 rfl rfl (inRlit _) (fun c130 => ?_) (fun c130 => ?_)
                · exact absurd c130 (by omega)
                · refine aw_aload_n hO dX12_clause_133 rfl rfl ?_
                  refine aw_callVV (as := []) (st := []) hO dX12_clause_134 rfl (lw_t6 187 rfl rfl) kX12_condition (T := TX12) rfl (by decide) rfl (ctM_condU (r := 6) (d := 0) (by omega) (ctM_unit 6 0 rfl) g N τ p2 (cat l) μ36 hp_μ36 (by rw [hp2s]; omega)) (by omega) rfl rfl rfl (Nat.le_of_ble_eq_true rfl) (fun μ94 hq95 => ?_)
                  obtain ⟨hf0_μ94, ho_μ94⟩ := hq95
                  have hf_μ94 : Fr (sC τ l.length) μ μ94 := hf_μ36.tr (hf0_μ94.mono fun _ _ => Or.inl)
                  rcases hx94 : pCond g 6 (sk g p2) with ⟨q94, _ | t94⟩
                  · have hb_μ94 := (PO_b hx94).mp ho_μ94
                    have hqN94 := hb_μ94.2.1.2
                    refine aw_goto (tgt := 184) hO dX12_clause_137 rfl ?_
                    refine aw_aload_n hO dX12_clause_184 rfl rfl ?_
                    refine gM_sumFrom hO dX12_clause_185 rfl ?_
                    refine aw_iload_n hO dX12_clause_188 rfl rfl ?_
                    refine aw_aload_n hO dX12_clause_189 rfl rfl ?_
                    refine gM_testFrom hO dX12_clause_190 rfl ?_
                    refine aw_iload_n hO dX12_clause_193 rfl rfl ?_
                    refine aw_ialdn (N := 700) (i := (140 * τ + l.length)) hO dX12_clause_194 rfl (by decide) rfl (by decide) rfl (by omega) ?_
                    refine aw_cg ((hf0_μ94.1 6 (140 * τ + l.length) (by unfold sS; omega)).trans ((mst_of (k := 6) (i := (140 * τ + l.length)) e_μ36 (by decide)).trans ((mst_of (k := 6) (i := (140 * τ + l.length)) e_μ11 (by decide)).trans (mst_at e_μ9)))) ?_
                    refine aw_iastn (N := 700) (i := (140 * τ + l.length)) hO dX12_clause_195 rfl (by decide) rfl (by decide) rfl (by omega) ?_
                    refine aw_mm (fun μ96 e_μ96 => ?_)
                    have hf_μ96 : Fr (sC τ l.length) μ μ96 := by rw [e_μ96]; exact hf_μ94.st (Or.inr (Or.inr ⟨Or.inr (Or.inl rfl), rfl⟩)) _
                    have hb_μ96 := Bd.cast e_μ96 (hb_μ94.off (by omega))
                    refine aw_iload_n hO dX12_clause_196 rfl rfl ?_
                    refine aw_if_eq (tgt := 251) hO dX12_clause_197 rfl rfl (inRlit _) (fun c197 => ?_) (fun c197 => ?_)
                    · exact absurd c197 (by omega)
                    · refine aw_aload_n hO dX12_clause_200 rfl rfl ?_
                      refine gM_wrong hO dX12_clause_201 rfl ?_
                      refine aw_cg hb_μ96.2.1.1 ?_
                      refine aw_iconst hO dX12_clause_204 rfl ?_
                      refine aw_icmp_ne (tgt := 251) hO dX12_clause_205 rfl rfl (inRn (by omega)) (inRlit _) (fun c205 => ?_) (fun c205 => ?_)
                      · refine aw_aload_n hO dX12_clause_251 rfl rfl ?_
                        refine gM_sumTo hO dX12_clause_252 rfl ?_
                        refine aw_iload_n hO dX12_clause_255 rfl rfl ?_
                        refine aw_aload_n hO dX12_clause_256 rfl rfl ?_
                        refine gM_codes hO dX12_clause_257 rfl ?_
                        refine aw_aload_n hO dX12_clause_260 rfl rfl ?_
                        refine gM_text hO dX12_clause_261 rfl ?_
                        refine aw_cg hb_μ96.1.2.2.2.1 ?_
                        refine aw_ialdn (N := 5) (i := τ) hO dX12_clause_264 rfl (by decide) rfl (by decide) (by omega) (by omega) ?_
                        refine aw_iastn (N := 700) (i := (140 * τ + l.length)) hO dX12_clause_265 rfl (by decide) rfl (by decide) rfl (by omega) ?_
                        refine aw_mm (fun μ97 e_μ97 => ?_)
                        have hf_μ97 : Fr (sC τ l.length) μ μ97 := by rw [e_μ97]; exact hf_μ96.st (Or.inr (Or.inr ⟨Or.inr (Or.inr rfl), rfl⟩)) _
                        have hb_μ97 := Bd.cast e_μ97 (hb_μ96.off (by omega))
                        refine aw_aload_n hO dX12_clause_266 rfl rfl ?_
                        refine gM_clauses hO dX12_clause_267 rfl ?_
                        refine aw_aload_n hO dX12_clause_270 rfl rfl ?_
                        refine gM_text hO dX12_clause_271 rfl ?_
                        refine aw_cg hb_μ97.1.2.2.2.1 ?_
                        refine aw_dup2 hO dX12_clause_274 rfl rfl rfl ?_
                        refine aw_ialdn (N := 5) (i := τ) hO dX12_clause_275 rfl (by decide) rfl (by decide) (by omega) (by omega) ?_
                        refine aw_cg ((mst_of (k := 5) (i := τ) e_μ97 (by decide)).trans ((mst_of (k := 5) (i := τ) e_μ96 (by decide)).trans ((hf0_μ94.1 5 τ (by unfold sS; omega)).trans ((mst_of (k := 5) (i := τ) e_μ36 (by decide)).trans ((mst_of (k := 5) (i := τ) e_μ11 (by decide)).trans ((mst_of (k := 5) (i := τ) e_μ9 (by decide)).trans ((mst_of (k := 5) (i := τ) e_μ8 (by decide)).trans ((mst_of (k := 5) (i := τ) e_μ6 (by decide)).trans ((mst_of (k := 5) (i := τ) e_μ4 (by decide)).trans ((mst_of (k := 5) (i := τ) e_μ2 (by decide)).trans hC.1)))))))))) ?_
                        refine aw_iconst hO dX12_clause_276 rfl ?_
                        refine aw_iadd hO dX12_clause_277 rfl ?_
                        refine aw_iastn (N := 5) (i := τ) hO dX12_clause_278 rfl (by decide) rfl (by decide) (by omega) (by omega) ?_
                        refine aw_mm (fun μ98 e_μ98 => ?_)
                        have hf_μ98 : Fr (sC τ l.length) μ μ98 := by rw [e_μ98]; exact hf_μ97.st (Or.inr (Or.inl ⟨rfl, rfl⟩)) _
                        have hb_μ98 := Bd.cast e_μ98 (hb_μ97.off (by omega))
                        refine aw_vret hO dX12_clause_279 ?_
                        exact ⟨rfl, hf_μ98, ClO_b ((pCl_t c33 hp1 c64 hp2 (Or.inr c120)).trans (clB_n (by rw [← hp2s]; exact hx94))) hb_μ98⟩
                      · exact absurd c205 (by omega)
                  · obtain ⟨b94, hs94, hp_μ94⟩ := (PO_g hx94).mp ho_μ94
                    have hle94 := hp_μ94.le
                    rw [hp2s] at hx94
                    obtain ⟨u1, u2, u3, u4, u5⟩ := (pCond_G hG 6 p2 hp2N).2 q94 t94 hx94
                    refine aw_goto (tgt := 184) hO dX12_clause_137 rfl ?_
                    refine aw_aload_n hO dX12_clause_184 rfl rfl ?_
                    refine gM_sumFrom hO dX12_clause_185 rfl ?_
                    refine aw_iload_n hO dX12_clause_188 rfl rfl ?_
                    refine aw_aload_n hO dX12_clause_189 rfl rfl ?_
                    refine gM_testFrom hO dX12_clause_190 rfl ?_
                    refine aw_iload_n hO dX12_clause_193 rfl rfl ?_
                    refine aw_ialdn (N := 700) (i := (140 * τ + l.length)) hO dX12_clause_194 rfl (by decide) rfl (by decide) rfl (by omega) ?_
                    refine aw_cg ((hf0_μ94.1 6 (140 * τ + l.length) (by unfold sS; omega)).trans ((mst_of (k := 6) (i := (140 * τ + l.length)) e_μ36 (by decide)).trans ((mst_of (k := 6) (i := (140 * τ + l.length)) e_μ11 (by decide)).trans (mst_at e_μ9)))) ?_
                    refine aw_iastn (N := 700) (i := (140 * τ + l.length)) hO dX12_clause_195 rfl (by decide) rfl (by decide) rfl (by omega) ?_
                    refine aw_mm (fun μ99 e_μ99 => ?_)
                    have hf_μ99 : Fr (sC τ l.length) μ μ99 := by rw [e_μ99]; exact hf_μ94.st (Or.inr (Or.inr ⟨Or.inr (Or.inl rfl), rfl⟩)) _
                    have hp_μ99 : PS g N τ μ99 b94 0 ((cat l) ++ t94) := by rw [e_μ99]; exact hp_μ94.off (by omega)
                    refine aw_iload_n hO dX12_clause_196 rfl rfl ?_
                    refine aw_if_eq (tgt := 251) hO dX12_clause_197 rfl rfl (inRlit _) (fun c197 => ?_) (fun c197 => ?_)
                    · exact absurd c197 (by omega)
                    · refine aw_aload_n hO dX12_clause_200 rfl rfl ?_
                      refine gM_wrong hO dX12_clause_201 rfl ?_
                      refine aw_cg hp_μ99.wr ?_
                      refine aw_iconst hO dX12_clause_204 rfl ?_
                      refine aw_icmp_ne (tgt := 251) hO dX12_clause_205 rfl rfl (inRlit _) (inRlit _) (fun c205 => ?_) (fun c205 => ?_)
                      · exact absurd c205 (by omega)
                      · refine aw_aload_n hO dX12_clause_208 rfl rfl ?_
                        refine aw_callVE (as := []) (st := []) hO dX12_clause_209 rfl (lw_t6 140 rfl rfl) kX12_look (T := TX12) rfl (by decide) rfl (ctM_look μ99 hp_μ99.1 hp_μ99.at hp_μ99.le) (by omega) rfl rfl rfl (Nat.le_of_ble_eq_true rfl) (fun v100 μ101 hq102 => ?_)
                        obtain ⟨e_v100, e_μ101⟩ := hq102
                        subst e_v100
                        have hp_μ101 := hp_μ99.look
                        rw [← e_μ101] at hp_μ101
                        have hf_μ101 : Fr (sC τ l.length) μ μ101 := by rw [e_μ101]; exact hf_μ99.st (Or.inl sS_at) _
                        have hr_μ101 := hp_μ99.G.rng (sk g b94)
                        rw [hs94] at hp_μ101 hr_μ101 ⊢
                        refine aw_bipush hO dX12_clause_212 rfl (by decide) (by decide) ?_
                        refine aw_icmp_eq (tgt := 222) hO dX12_clause_214 rfl rfl ⟨by omega, by omega⟩ (inRlit _) (fun c214 => ?_) (fun c214 => ?_)
                        · have hltq := hG.lt (p := q94) (by omega)
                          refine aw_aload_n hO dX12_clause_222 rfl rfl ?_
                          refine aw_dup hO dX12_clause_223 rfl rfl ?_
                          refine gM_at hO dX12_clause_224 rfl ?_
                          refine aw_cg hp_μ101.at ?_
                          refine aw_iconst hO dX12_clause_227 rfl ?_
                          refine aw_iadd hO dX12_clause_228 rfl ?_
                          refine pM_at hO dX12_clause_229 rfl ?_
                          refine aw_mm (fun μ103 e_μ103 => ?_)
                          have hf_μ103 : Fr (sC τ l.length) μ μ103 := by rw [e_μ103]; exact hf_μ101.st (Or.inl sS_at) _
                          have hp_μ103 := hp_μ101.to (b := (q94 + 1)) (by omega)
                          rw [show (((q94 + 1) : Nat) : Int) = ((q94 : Nat) : Int) + 1 from rfl, ← e_μ103] at hp_μ103
                          refine aw_aload_n hO dX12_clause_232 rfl rfl ?_
                          refine gM_sumFrom hO dX12_clause_233 rfl ?_
                          refine aw_iload_n hO dX12_clause_236 rfl rfl ?_
                          refine aw_aload_n hO dX12_clause_237 rfl rfl ?_
                          refine gM_codes hO dX12_clause_238 rfl ?_
                          refine aw_aload_n hO dX12_clause_241 rfl rfl ?_
                          refine gM_text hO dX12_clause_242 rfl ?_
                          refine aw_cg hp_μ103.1.2.2.2.1 ?_
                          refine aw_ialdn (N := 5) (i := τ) hO dX12_clause_245 rfl (by decide) rfl (by decide) (by omega) (by omega) ?_
                          refine aw_cg hp_μ103.co ?_
                          refine aw_iastn (N := 700) (i := (140 * τ + l.length)) hO dX12_clause_246 rfl (by decide) rfl (by decide) rfl (by omega) ?_
                          refine aw_mm (fun μ104 e_μ104 => ?_)
                          have hf_μ104 : Fr (sC τ l.length) μ μ104 := by rw [e_μ104]; exact hf_μ103.st (Or.inr (Or.inr ⟨Or.inr (Or.inl rfl), rfl⟩)) _
                          have hp_μ104 : PS g N τ μ104 (q94 + 1) 0 ((cat l) ++ t94) := by rw [e_μ104]; exact hp_μ103.off (by omega)
                          refine aw_aload_n hO dX12_clause_247 rfl rfl ?_
                          refine aw_callVV (as := []) (st := []) hO dX12_clause_248 rfl (lw_t6 207 rfl rfl) kX12_sum (T := TX12) rfl (by decide) rfl (ctM_sum 6 0 rfl g N τ (q94 + 1) (cat l ++ t94) μ104 hp_μ104 (by have := sk_ge g (q94 + 1); rw [List.length_append]; omega)) (by omega) rfl rfl rfl (Nat.le_of_ble_eq_true rfl) (fun μ106 hq107 => ?_)
                          obtain ⟨hf0_μ106, ho_μ106⟩ := hq107
                          have hf_μ106 : Fr (sC τ l.length) μ μ106 := hf_μ104.tr (hf0_μ106.mono fun _ _ => Or.inl)
                          rcases hx106 : pSum g 6 (sk g (q94 + 1)) with ⟨q106, _ | t106⟩
                          · have hb_μ106 := (PO_b hx106).mp ho_μ106
                            have hqN106 := hb_μ106.2.1.2
                            refine aw_aload_n hO dX12_clause_251 rfl rfl ?_
                            refine gM_sumTo hO dX12_clause_252 rfl ?_
                            refine aw_iload_n hO dX12_clause_255 rfl rfl ?_
                            refine aw_aload_n hO dX12_clause_256 rfl rfl ?_
                            refine gM_codes hO dX12_clause_257 rfl ?_
                            refine aw_aload_n hO dX12_clause_260 rfl rfl ?_
                            refine gM_text hO dX12_clause_261 rfl ?_
                            refine aw_cg hb_μ106.1.2.2.2.1 ?_
                            refine aw_ialdn (N := 5) (i := τ) hO dX12_clause_264 rfl (by decide) rfl (by decide) (by omega) (by omega) ?_
                            refine aw_iastn (N := 700) (i := (140 * τ + l.length)) hO dX12_clause_265 rfl (by decide) rfl (by decide) rfl (by omega) ?_
                            refine aw_mm (fun μ108 e_μ108 => ?_)
                            have hf_μ108 : Fr (sC τ l.length) μ μ108 := by rw [e_μ108]; exact hf_μ106.st (Or.inr (Or.inr ⟨Or.inr (Or.inr rfl), rfl⟩)) _
                            have hb_μ108 := Bd.cast e_μ108 (hb_μ106.off (by omega))
                            refine aw_aload_n hO dX12_clause_266 rfl rfl ?_
                            refine gM_clauses hO dX12_clause_267 rfl ?_
                            refine aw_aload_n hO dX12_clause_270 rfl rfl ?_
                            refine gM_text hO dX12_clause_271 rfl ?_
                            refine aw_cg hb_μ108.1.2.2.2.1 ?_
                            refine aw_dup2 hO dX12_clause_274 rfl rfl rfl ?_
                            refine aw_ialdn (N := 5) (i := τ) hO dX12_clause_275 rfl (by decide) rfl (by decide) (by omega) (by omega) ?_
                            refine aw_cg ((mst_of (k := 5) (i := τ) e_μ108 (by decide)).trans ((hf0_μ106.1 5 τ (by unfold sS; omega)).trans ((mst_of (k := 5) (i := τ) e_μ104 (by decide)).trans ((mst_of (k := 5) (i := τ) e_μ103 (by decide)).trans ((mst_of (k := 5) (i := τ) e_μ101 (by decide)).trans ((mst_of (k := 5) (i := τ) e_μ99 (by decide)).trans ((hf0_μ94.1 5 τ (by unfold sS; omega)).trans ((mst_of (k := 5) (i := τ) e_μ36 (by decide)).trans ((mst_of (k := 5) (i := τ) e_μ11 (by decide)).trans ((mst_of (k := 5) (i := τ) e_μ9 (by decide)).trans ((mst_of (k := 5) (i := τ) e_μ8 (by decide)).trans ((mst_of (k := 5) (i := τ) e_μ6 (by decide)).trans ((mst_of (k := 5) (i := τ) e_μ4 (by decide)).trans ((mst_of (k := 5) (i := τ) e_μ2 (by decide)).trans hC.1)))))))))))))) ?_
                            refine aw_iconst hO dX12_clause_276 rfl ?_
                            refine aw_iadd hO dX12_clause_277 rfl ?_
                            refine aw_iastn (N := 5) (i := τ) hO dX12_clause_278 rfl (by decide) rfl (by decide) (by omega) (by omega) ?_
                            refine aw_mm (fun μ109 e_μ109 => ?_)
                            have hf_μ109 : Fr (sC τ l.length) μ μ109 := by rw [e_μ109]; exact hf_μ108.st (Or.inr (Or.inl ⟨rfl, rfl⟩)) _
                            have hb_μ109 := Bd.cast e_μ109 (hb_μ108.off (by omega))
                            refine aw_vret hO dX12_clause_279 ?_
                            exact ⟨rfl, hf_μ109, ClO_b ((pCl_t c33 hp1 c64 hp2 (Or.inr c120)).trans (clB_b hx94 c214 hx106)) hb_μ109⟩
                          · obtain ⟨b106, hs106, hp_μ106⟩ := (PO_g hx106).mp ho_μ106
                            have hle106 := hp_μ106.le
                            refine aw_aload_n hO dX12_clause_251 rfl rfl ?_
                            refine gM_sumTo hO dX12_clause_252 rfl ?_
                            refine aw_iload_n hO dX12_clause_255 rfl rfl ?_
                            refine aw_aload_n hO dX12_clause_256 rfl rfl ?_
                            refine gM_codes hO dX12_clause_257 rfl ?_
                            refine aw_aload_n hO dX12_clause_260 rfl rfl ?_
                            refine gM_text hO dX12_clause_261 rfl ?_
                            refine aw_cg hp_μ106.1.2.2.2.1 ?_
                            refine aw_ialdn (N := 5) (i := τ) hO dX12_clause_264 rfl (by decide) rfl (by decide) (by omega) (by omega) ?_
                            refine aw_cg hp_μ106.co ?_
                            refine aw_iastn (N := 700) (i := (140 * τ + l.length)) hO dX12_clause_265 rfl (by decide) rfl (by decide) rfl (by omega) ?_
                            refine aw_mm (fun μ110 e_μ110 => ?_)
                            have hf_μ110 : Fr (sC τ l.length) μ μ110 := by rw [e_μ110]; exact hf_μ106.st (Or.inr (Or.inr ⟨Or.inr (Or.inr rfl), rfl⟩)) _
                            have hp_μ110 : PS g N τ μ110 b106 0 ((cat l ++ t94) ++ t106) := by rw [e_μ110]; exact hp_μ106.off (by omega)
                            refine aw_aload_n hO dX12_clause_266 rfl rfl ?_
                            refine gM_clauses hO dX12_clause_267 rfl ?_
                            refine aw_aload_n hO dX12_clause_270 rfl rfl ?_
                            refine gM_text hO dX12_clause_271 rfl ?_
                            refine aw_cg hp_μ110.1.2.2.2.1 ?_
                            refine aw_dup2 hO dX12_clause_274 rfl rfl rfl ?_
                            refine aw_ialdn (N := 5) (i := τ) hO dX12_clause_275 rfl (by decide) rfl (by decide) (by omega) (by omega) ?_
                            refine aw_cg ((mst_of (k := 5) (i := τ) e_μ110 (by decide)).trans ((hf0_μ106.1 5 τ (by unfold sS; omega)).trans ((mst_of (k := 5) (i := τ) e_μ104 (by decide)).trans ((mst_of (k := 5) (i := τ) e_μ103 (by decide)).trans ((mst_of (k := 5) (i := τ) e_μ101 (by decide)).trans ((mst_of (k := 5) (i := τ) e_μ99 (by decide)).trans ((hf0_μ94.1 5 τ (by unfold sS; omega)).trans ((mst_of (k := 5) (i := τ) e_μ36 (by decide)).trans ((mst_of (k := 5) (i := τ) e_μ11 (by decide)).trans ((mst_of (k := 5) (i := τ) e_μ9 (by decide)).trans ((mst_of (k := 5) (i := τ) e_μ8 (by decide)).trans ((mst_of (k := 5) (i := τ) e_μ6 (by decide)).trans ((mst_of (k := 5) (i := τ) e_μ4 (by decide)).trans ((mst_of (k := 5) (i := τ) e_μ2 (by decide)).trans hC.1)))))))))))))) ?_
                            refine aw_iconst hO dX12_clause_276 rfl ?_
                            refine aw_iadd hO dX12_clause_277 rfl ?_
                            refine aw_iastn (N := 5) (i := τ) hO dX12_clause_278 rfl (by decide) rfl (by decide) (by omega) (by omega) ?_
                            refine aw_mm (fun μ111 e_μ111 => ?_)
                            have hf_μ111 : Fr (sC τ l.length) μ μ111 := by rw [e_μ111]; exact hf_μ110.st (Or.inr (Or.inl ⟨rfl, rfl⟩)) _
                            have hp_μ111 : PS g N τ μ111 b106 0 ((cat l ++ t94) ++ t106) := by rw [e_μ111]; exact hp_μ110.off (by omega)
                            refine aw_vret hO dX12_clause_279 ?_
                            have hp9 : PS g N τ μ111 b106 0 (cat (l ++ [((some t94, t106) : Cl)])) := by rw [cat_app]; have hq9 := hp_μ111; rw [List.append_assoc] at hq9; exact hq9
                            exact ⟨rfl, hf_μ111, ClO_g ((pCl_t c33 hp1 c64 hp2 (Or.inr c120)).trans (clB_g hx94 c214 hx106)) hs106 hp9 (hC.ext hf_μ111 (mst_at e_μ111) ((mst_of (k := 6) (i := (140 * τ + l.length)) e_μ111 (by decide)).trans ((mst_of (k := 6) (i := (140 * τ + l.length)) e_μ110 (by decide)).trans ((hf0_μ106.1 6 (140 * τ + l.length) (by unfold sS; omega)).trans ((mst_of (k := 6) (i := (140 * τ + l.length)) e_μ104 (by decide)).trans ((mst_of (k := 6) (i := (140 * τ + l.length)) e_μ103 (by decide)).trans ((mst_of (k := 6) (i := (140 * τ + l.length)) e_μ101 (by decide)).trans ((mst_of (k := 6) (i := (140 * τ + l.length)) e_μ99 (by decide)).trans ((hf0_μ94.1 6 (140 * τ + l.length) (by unfold sS; omega)).trans ((mst_of (k := 6) (i := (140 * τ + l.length)) e_μ36 (by decide)).trans ((mst_of (k := 6) (i := (140 * τ + l.length)) e_μ11 (by decide)).trans (mst_at e_μ9))))))))))) ((((mst_of (k := 7) (i := (140 * τ + l.length)) e_μ111 (by decide)).trans ((mst_of (k := 7) (i := (140 * τ + l.length)) e_μ110 (by decide)).trans ((hf0_μ106.1 7 (140 * τ + l.length) (by unfold sS; omega)).trans (mst_at e_μ104))))).trans (by simp [List.length_append])) ((((mst_of (k := 8) (i := (140 * τ + l.length)) e_μ111 (by decide)).trans (mst_at e_μ110))).trans (by simp [List.length_append]; omega)))⟩
                        · refine aw_aload_n hO dX12_clause_217 rfl rfl ?_
                          have hlenb : (((cat l) ++ t94)).length ≤ 400 := by first | omega | (simp only [List.length_append]; omega)
                          refine aw_callVV (as := []) (st := []) hO dX12_clause_218 rfl (lw_t6 168 rfl rfl) kX12_bad (T := TX12) rfl (by decide) rfl (ctM_bad μ101 hp_μ101.at hp_μ101.wr) (by omega) rfl rfl rfl (Nat.le_of_ble_eq_true rfl) (fun μ113 hq114 => ?_)
                          have hb_μ113 := hp_μ101.bad (B := B) (by omega)
                          rw [← hq114] at hb_μ113
                          have hf_μ113 : Fr (sC τ l.length) μ μ113 := by rw [hq114]; exact hf_μ101.st (Or.inl sS_wr) _
                          refine aw_vret hO dX12_clause_221 ?_
                          exact ⟨rfl, hf_μ113, ClO_b ((pCl_t c33 hp1 c64 hp2 (Or.inr c120)).trans (clB_q hx94 c214)) hb_μ113⟩
          · exact absurd c86 (by omega)
        · refine aw_aload_n hO dX12_clause_67 rfl rfl ?_
          have hlenb : ((cat l)).length ≤ 400 := by first | omega | (simp only [List.length_append]; omega)
          refine aw_callVV (as := []) (st := []) hO dX12_clause_68 rfl (lw_t6 168 rfl rfl) kX12_bad (T := TX12) rfl (by decide) rfl (ctM_bad μ6 hp_μ6.at hp_μ6.wr) (by omega) rfl rfl rfl (Nat.le_of_ble_eq_true rfl) (fun μ116 hq117 => ?_)
          have hb_μ116 := hp_μ6.bad (B := B) (by omega)
          rw [← hq117] at hb_μ116
          have hf_μ116 : Fr (sC τ l.length) μ μ116 := by rw [hq117]; exact hf_μ6.st (Or.inl sS_wr) _
          refine aw_aload_n hO dX12_clause_71 rfl rfl ?_
          refine aw_dup hO dX12_clause_72 rfl rfl ?_
          refine gM_at hO dX12_clause_73 rfl ?_
          refine aw_iconst hO dX12_clause_76 rfl ?_
          refine aw_iadd hO dX12_clause_77 rfl ?_
          refine pM_at hO dX12_clause_78 rfl ?_
          refine aw_mm (fun μ118 e_μ118 => ?_)
          have hf_μ118 : Fr (sC τ l.length) μ μ118 := by rw [e_μ118]; exact hf_μ116.st (Or.inl sS_at) _
          have hb_μ118 := hb_μ116.st (i := 3) (Or.inl rfl) (μ116.1 0 3 + 1)
          rw [← e_μ118] at hb_μ118
          refine aw_aload_n hO dX12_clause_81 rfl rfl ?_
          refine gM_wrong hO dX12_clause_82 rfl ?_
          refine aw_cg hb_μ118.2.1.1 ?_
          refine aw_iconst hO dX12_clause_85 rfl ?_
          refine aw_icmp_eq (tgt := 90) hO dX12_clause_86 rfl rfl (inRn (by omega)) (inRlit _) (fun c86 => ?_) (fun c86 => ?_)
          · exact absurd c86 (by omega)
          · refine aw_vret hO dX12_clause_89 ?_
            exact ⟨rfl, hf_μ118, ClO_b ((pCl_c c33 (by rw [hp1]; exact c64)).trans (by rw [hp1])) hb_μ118⟩
    · refine aw_aload_n hO dX12_clause_36 rfl rfl ?_
      have hlenb : ((cat l)).length ≤ 400 := by first | omega | (simp only [List.length_append]; omega)
      refine aw_callVV (as := []) (st := []) hO dX12_clause_37 rfl (lw_t6 168 rfl rfl) kX12_bad (T := TX12) rfl (by decide) rfl (ctM_bad μ2 hp_μ2.at hp_μ2.wr) (by omega) rfl rfl rfl (Nat.le_of_ble_eq_true rfl) (fun μ120 hq121 => ?_)
      have hb_μ120 := hp_μ2.bad (B := B) (by omega)
      rw [← hq121] at hb_μ120
      have hf_μ120 : Fr (sC τ l.length) μ μ120 := by rw [hq121]; exact hf_μ2.st (Or.inl sS_wr) _
      refine aw_aload_n hO dX12_clause_40 rfl rfl ?_
      refine aw_dup hO dX12_clause_41 rfl rfl ?_
      refine gM_at hO dX12_clause_42 rfl ?_
      refine aw_iconst hO dX12_clause_45 rfl ?_
      refine aw_iadd hO dX12_clause_46 rfl ?_
      refine pM_at hO dX12_clause_47 rfl ?_
      refine aw_mm (fun μ122 e_μ122 => ?_)
      have hf_μ122 : Fr (sC τ l.length) μ μ122 := by rw [e_μ122]; exact hf_μ120.st (Or.inl sS_at) _
      have hb_μ122 := hb_μ120.st (i := 3) (Or.inl rfl) (μ120.1 0 3 + 1)
      rw [← e_μ122] at hb_μ122
      refine aw_aload_n hO dX12_clause_50 rfl rfl ?_
      refine gM_wrong hO dX12_clause_51 rfl ?_
      refine aw_cg hb_μ122.2.1.1 ?_
      refine aw_iconst hO dX12_clause_54 rfl ?_
      refine aw_icmp_ne (tgt := 71) hO dX12_clause_55 rfl rfl (inRn (by omega)) (inRlit _) (fun c55 => ?_) (fun c55 => ?_)
      · refine aw_aload_n hO dX12_clause_71 rfl rfl ?_
        refine aw_dup hO dX12_clause_72 rfl rfl ?_
        refine gM_at hO dX12_clause_73 rfl ?_
        refine aw_iconst hO dX12_clause_76 rfl ?_
        refine aw_iadd hO dX12_clause_77 rfl ?_
        refine pM_at hO dX12_clause_78 rfl ?_
        refine aw_mm (fun μ123 e_μ123 => ?_)
        have hf_μ123 : Fr (sC τ l.length) μ μ123 := by rw [e_μ123]; exact hf_μ122.st (Or.inl sS_at) _
        have hb_μ123 := hb_μ122.st (i := 3) (Or.inl rfl) (μ122.1 0 3 + 1)
        rw [← e_μ123] at hb_μ123
        refine aw_aload_n hO dX12_clause_81 rfl rfl ?_
        refine gM_wrong hO dX12_clause_82 rfl ?_
        refine aw_cg hb_μ123.2.1.1 ?_
        refine aw_iconst hO dX12_clause_85 rfl ?_
        refine aw_icmp_eq (tgt := 90) hO dX12_clause_86 rfl rfl (inRn (by omega)) (inRlit _) (fun c86 => ?_) (fun c86 => ?_)
        · exact absurd c86 (by omega)
        · refine aw_vret hO dX12_clause_89 ?_
          exact ⟨rfl, hf_μ123, ClO_b (pCl_y c33) hb_μ123⟩
      · exact absurd c55 (by omega)
