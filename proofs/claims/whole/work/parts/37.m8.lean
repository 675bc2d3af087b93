
/-! ## a martinmas -/
def crownF (f : Nat → Int) (ch br : Int) : Nat → Int := if ch = -1 then f else fu (fu f (18 + ch.toNat) (min 99 (f (18 + ch.toNat) + 1))) (if br = 1 then 34 else 35) (f (if br = 1 then 34 else 35) + 1)
def trbF (f : Nat → Int) (tm : Int) (gr : Nat → Int) : Nat → Nat → Int
  | 0 => f
  | t + 1 => fu (fu (trbF f tm gr t) (24 + t) (max 0 (min 9 (trbF f tm gr t (24 + t) + (if hasB tm t = true then 1 else -1))))) 32 (if hasB tm t = true then trbF f tm gr t 32 else min 9999 (trbF f tm gr t 32 + gr t))
def endF (f : Nat → Int) : Nat → Int := fun i => if i < 18 then 0 else if i = 29 ∨ i = 30 then 0 else if i = 33 then min 999 (f 33 + 3) else if i = 36 then f 36 + 1 else f i
theorem crownF_ne {f : Nat → Int} {ch br : Int} (h : ch < 6) {i : Nat} (h1 : i < 18 ∨ 24 ≤ i) (h2 : i ≠ 34) (h3 : i ≠ 35) : crownF f ch br i = f i := by
  unfold crownF
  split
  · rfl
  · rw [fu_ne (by split <;> omega), fu_ne (by omega)]
theorem trbF_ne {f : Nat → Int} {tm : Int} {gr : Nat → Int} {i : Nat} (h2 : i ≠ 32) : ∀ t, i < 24 ∨ 24 + t ≤ i → trbF f tm gr t i = f i
  | 0, _ => rfl
  | t + 1, h => by
    unfold trbF
    rw [fu_ne h2, fu_ne (by omega)]
    exact trbF_ne h2 t (by omega)
theorem trbF_rng {M : Nat} (hM : M ≤ 5) {f : Nat → Int} {tm : Int} {gr : Nat → Int} (h : ∀ t, t < 5 → 0 ≤ f (24 + t) ∧ f (24 + t) ≤ 9) (h2 : 0 ≤ f 32 ∧ f 32 ≤ 9999) (hg : ∀ t, t < M → 0 ≤ gr t ∧ gr t ≤ 9) : ∀ n, n ≤ M → (∀ t, t < 5 → 0 ≤ trbF f tm gr n (24 + t) ∧ trbF f tm gr n (24 + t) ≤ 9) ∧ (0 ≤ trbF f tm gr n 32 ∧ trbF f tm gr n 32 ≤ 9999)
  | 0, _ => ⟨h, h2⟩
  | n + 1, hn => by
    obtain ⟨a, b⟩ := trbF_rng hM h h2 hg n (by omega)
    have hgn := hg n (by omega)
    constructor
    · intro t ht
      unfold trbF
      rw [fu_ne (by omega)]
      by_cases e : t = n
      · subst e
        rw [fu_eq]
        omega
      · rw [fu_ne (by omega)]
        exact a t ht
    · unfold trbF
      rw [fu_eq]
      split <;> omega
/-- what a martinmas without the log is, over the reference's memory -/
def chM (μ : Mm) : Int := pickM μ (μ.1 0 25).toNat
def brM (μ : Mm) : Int := if chM μ ≠ -1 ∧ himM μ (μ.1 0 25).toNat = -1 then 1 else 0
def tmM (μ : Mm) : Int := metM μ (chM μ) (μ.1 0 26).toNat
def liveF (μ : Mm) : Nat → Int := endF (trbF (crownF (μ.1 17) (chM μ) (brM μ)) (tmM μ) (fun t => μ.1 16 (3 * t + 2)) (μ.1 0 26).toNat)
def OffL (μ m : Mm) : Prop := (∀ k i, k ≠ 9 → k ≠ 10 → k ≠ 17 → ¬ (k = 0 ∧ (i = 31 ∨ i = 32 ∨ i = 33)) → m.1 k i = μ.1 k i) ∧ m.2 = μ.2
def LvS (μ : Mm) (F : Nat → Int) (m : Mm) : Prop := m.1 17 = F ∧ (m.1 0 31 = chM μ ∧ m.1 0 32 = brM μ ∧ m.1 0 33 = tmM μ) ∧ OffL μ m
theorem LvS.wr {μ m : Mm} {F : Nat → Int} (h : LvS μ F m) (i : Nat) (v : Int) : LvS μ (fu F i v) (mst m 17 i v) := by
  refine ⟨?_, ⟨by rw [mst_nk (by decide)]; exact h.2.1.1, by rw [mst_nk (by decide)]; exact h.2.1.2.1, by rw [mst_nk (by decide)]; exact h.2.1.2.2⟩, fun k j a b c e => by rw [mst_nk c]; exact h.2.2.1 k j a b c e, h.2.2.2⟩
  rw [mst_row, mrow_at, h.1]
theorem live_ok {μ : Mm} (h : MB μ) (hy : μ.1 17 36 ≤ 1099) : NowOK (liveF μ) := by
  have hn := h.now
  have hr := hn.rest
  have hnt := h.nt
  have hch : chM μ = -1 ∨ (0 ≤ chM μ ∧ chM μ < 6) := by
    have := pickM_rng μ (μ.1 0 25).toNat
    have := h.np
    unfold chM
    omega
  have hc18 : ∀ i, 18 ≤ i → i < 24 → 0 ≤ crownF (μ.1 17) (chM μ) (brM μ) i ∧ crownF (μ.1 17) (chM μ) (brM μ) i ≤ 99 := by
    intro i h1 h2
    have hi := hn.cha h1 h2
    unfold crownF
    split
    · exact hi
    · rw [fu_ne (by split <;> omega)]
      by_cases e : i = 18 + (chM μ).toNat
      · subst e
        rw [fu_eq]
        omega
      · rw [fu_ne e]; exact hi
  have hc34 : (0 ≤ crownF (μ.1 17) (chM μ) (brM μ) 34 ∧ crownF (μ.1 17) (chM μ) (brM μ) 34 ≤ μ.1 17 36 + 1) ∧ (0 ≤ crownF (μ.1 17) (chM μ) (brM μ) 35 ∧ crownF (μ.1 17) (chM μ) (brM μ) 35 ≤ μ.1 17 36 + 1) := by
    unfold crownF
    split
    · omega
    · by_cases e : brM μ = 1
      · simp only [e, if_true]
        rw [fu_eq, fu_ne (by omega), fu_ne (by omega)]
        omega
      · simp only [e, if_false]
        rw [fu_eq, fu_ne (by omega), fu_ne (by omega)]
        omega
  have hcr : ∀ i, i < 18 ∨ 24 ≤ i → i ≠ 34 → i ≠ 35 → crownF (μ.1 17) (chM μ) (brM μ) i = μ.1 17 i := fun i a b c => crownF_ne (by omega) a b c
  have ht := trbF_rng (M := (μ.1 0 26).toNat) (by omega) (f := crownF (μ.1 17) (chM μ) (brM μ)) (tm := tmM μ) (gr := fun t => μ.1 16 (3 * t + 2)) (fun t ht => by rw [hcr _ (by omega) (by omega) (by omega)]; exact hn.ask (by omega) (by omega)) (by rw [hcr _ (by omega) (by omega) (by omega)]; omega) (fun t ht => (h.tr (t := t) (by omega)).2.2) (μ.1 0 26).toNat (by omega)
  have hte : ∀ i, i ≠ 32 → (i < 24 ∨ 29 ≤ i) → trbF (crownF (μ.1 17) (chM μ) (brM μ)) (tmM μ) (fun t => μ.1 16 (3 * t + 2)) (μ.1 0 26).toNat i = crownF (μ.1 17) (chM μ) (brM μ) i := fun i a b => trbF_ne a _ (by omega)
  unfold liveF
  generalize trbF (crownF (μ.1 17) (chM μ) (brM μ)) (tmM μ) (fun t => μ.1 16 (3 * t + 2)) (μ.1 0 26).toNat = G at ht hte ⊢
  generalize crownF (μ.1 17) (chM μ) (brM μ) = C at hc18 hc34 hcr hte ⊢
  have e31 := hte 31 (by omega) (by omega)
  have e33 := hte 33 (by omega) (by omega)
  have e34 := hte 34 (by omega) (by omega)
  have e35 := hte 35 (by omega) (by omega)
  have e36 := hte 36 (by omega) (by omega)
  have e37 := hte 37 (by omega) (by omega)
  have c31 := hcr 31 (by omega) (by omega) (by omega)
  have c33 := hcr 33 (by omega) (by omega) (by omega)
  have c36 := hcr 36 (by omega) (by omega) (by omega)
  have c37 := hcr 37 (by omega) (by omega) (by omega)
  unfold NowOK endF
  refine ⟨fun p hp => by rw [if_pos (by omega)]; omega, fun j hj => by rw [if_pos (by omega)]; omega, fun p hp => ?_, fun t htt => ?_, ?_⟩
  · rw [if_neg (by omega), if_neg (by omega), if_neg (by omega), if_neg (by omega), hte _ (by omega) (by omega)]
    exact hc18 _ (by omega) (by omega)
  · rw [if_neg (by omega), if_neg (by omega), if_neg (by omega), if_neg (by omega)]
    exact ht.1 t htt
  · simp only [show ¬ (29 : Nat) < 18 by omega, show ¬ (30 : Nat) < 18 by omega, show ¬ (31 : Nat) < 18 by omega, show ¬ (32 : Nat) < 18 by omega, show ¬ (33 : Nat) < 18 by omega, show ¬ (34 : Nat) < 18 by omega, show ¬ (35 : Nat) < 18 by omega, show ¬ (36 : Nat) < 18 by omega, show ¬ (37 : Nat) < 18 by omega]
    simp
    omega
theorem dX12_live_0 : decode cX12_live 0 = .ok (.aload_n 0, 1) := by decide +kernel
theorem dX12_live_1 : decode cX12_live 1 = .ok (.invokevirtual 289, 3) := by decide +kernel
theorem dX12_live_4 : decode cX12_live 4 = .ok (.istore_n 1, 1) := by decide +kernel
theorem dX12_live_5 : decode cX12_live 5 = .ok (.aload_n 0, 1) := by decide +kernel
theorem dX12_live_6 : decode cX12_live 6 = .ok (.aload_n 0, 1) := by decide +kernel
theorem dX12_live_7 : decode cX12_live 7 = .ok (.invokevirtual 295, 3) := by decide +kernel
theorem dX12_live_10 : decode cX12_live 10 = .ok (.putfield 298, 3) := by decide +kernel
theorem dX12_live_13 : decode cX12_live 13 = .ok (.aload_n 0, 1) := by decide +kernel
theorem dX12_live_14 : decode cX12_live 14 = .ok (.aload_n 0, 1) := by decide +kernel
theorem dX12_live_15 : decode cX12_live 15 = .ok (.getfield 298, 3) := by decide +kernel
theorem dX12_live_18 : decode cX12_live 18 = .ok (.iconst (-1), 1) := by decide +kernel
theorem dX12_live_19 : decode cX12_live 19 = .ok (.if_icmp .eq 12, 3) := by decide +kernel
theorem dX12_live_22 : decode cX12_live 22 = .ok (.iload_n 1, 1) := by decide +kernel
theorem dX12_live_23 : decode cX12_live 23 = .ok (.iconst (-1), 1) := by decide +kernel
theorem dX12_live_24 : decode cX12_live 24 = .ok (.if_icmp .ne 7, 3) := by decide +kernel
theorem dX12_live_27 : decode cX12_live 27 = .ok (.iconst 1, 1) := by decide +kernel
theorem dX12_live_28 : decode cX12_live 28 = .ok (.goto 4, 3) := by decide +kernel
theorem dX12_live_31 : decode cX12_live 31 = .ok (.iconst 0, 1) := by decide +kernel
theorem dX12_live_32 : decode cX12_live 32 = .ok (.putfield 301, 3) := by decide +kernel
theorem dX12_live_35 : decode cX12_live 35 = .ok (.aload_n 0, 1) := by decide +kernel
theorem dX12_live_36 : decode cX12_live 36 = .ok (.aload_n 0, 1) := by decide +kernel
theorem dX12_live_37 : decode cX12_live 37 = .ok (.aload_n 0, 1) := by decide +kernel
theorem dX12_live_38 : decode cX12_live 38 = .ok (.getfield 298, 3) := by decide +kernel
theorem dX12_live_41 : decode cX12_live 41 = .ok (.invokevirtual 304, 3) := by decide +kernel
theorem dX12_live_44 : decode cX12_live 44 = .ok (.putfield 307, 3) := by decide +kernel
theorem dX12_live_47 : decode cX12_live 47 = .ok (.aload_n 0, 1) := by decide +kernel
theorem dX12_live_48 : decode cX12_live 48 = .ok (.getfield 298, 3) := by decide +kernel
theorem dX12_live_51 : decode cX12_live 51 = .ok (.iconst (-1), 1) := by decide +kernel
theorem dX12_live_52 : decode cX12_live 52 = .ok (.if_icmp .eq 58, 3) := by decide +kernel
theorem dX12_live_55 : decode cX12_live 55 = .ok (.aload_n 0, 1) := by decide +kernel
theorem dX12_live_56 : decode cX12_live 56 = .ok (.getfield 58, 3) := by decide +kernel
theorem dX12_live_59 : decode cX12_live 59 = .ok (.bipush 18, 2) := by decide +kernel
theorem dX12_live_61 : decode cX12_live 61 = .ok (.aload_n 0, 1) := by decide +kernel
theorem dX12_live_62 : decode cX12_live 62 = .ok (.getfield 298, 3) := by decide +kernel
theorem dX12_live_65 : decode cX12_live 65 = .ok (.iadd, 1) := by decide +kernel
theorem dX12_live_66 : decode cX12_live 66 = .ok (.bipush 99, 2) := by decide +kernel
theorem dX12_live_68 : decode cX12_live 68 = .ok (.aload_n 0, 1) := by decide +kernel
theorem dX12_live_69 : decode cX12_live 69 = .ok (.getfield 58, 3) := by decide +kernel
theorem dX12_live_72 : decode cX12_live 72 = .ok (.bipush 18, 2) := by decide +kernel
theorem dX12_live_74 : decode cX12_live 74 = .ok (.aload_n 0, 1) := by decide +kernel
theorem dX12_live_75 : decode cX12_live 75 = .ok (.getfield 298, 3) := by decide +kernel
theorem dX12_live_78 : decode cX12_live 78 = .ok (.iadd, 1) := by decide +kernel
theorem dX12_live_79 : decode cX12_live 79 = .ok (.iaload, 1) := by decide +kernel
theorem dX12_live_80 : decode cX12_live 80 = .ok (.iconst 1, 1) := by decide +kernel
theorem dX12_live_81 : decode cX12_live 81 = .ok (.iadd, 1) := by decide +kernel
theorem dX12_live_82 : decode cX12_live 82 = .ok (.invokestatic 267, 3) := by decide +kernel
theorem dX12_live_85 : decode cX12_live 85 = .ok (.iastore, 1) := by decide +kernel
theorem dX12_live_86 : decode cX12_live 86 = .ok (.aload_n 0, 1) := by decide +kernel
theorem dX12_live_87 : decode cX12_live 87 = .ok (.getfield 58, 3) := by decide +kernel
theorem dX12_live_90 : decode cX12_live 90 = .ok (.aload_n 0, 1) := by decide +kernel
theorem dX12_live_91 : decode cX12_live 91 = .ok (.getfield 301, 3) := by decide +kernel
theorem dX12_live_94 : decode cX12_live 94 = .ok (.iconst 1, 1) := by decide +kernel
theorem dX12_live_95 : decode cX12_live 95 = .ok (.if_icmp .ne 8, 3) := by decide +kernel
theorem dX12_live_98 : decode cX12_live 98 = .ok (.bipush 34, 2) := by decide +kernel
theorem dX12_live_100 : decode cX12_live 100 = .ok (.goto 5, 3) := by decide +kernel
theorem dX12_live_103 : decode cX12_live 103 = .ok (.bipush 35, 2) := by decide +kernel
theorem dX12_live_105 : decode cX12_live 105 = .ok (.dup2, 1) := by decide +kernel
theorem dX12_live_106 : decode cX12_live 106 = .ok (.iaload, 1) := by decide +kernel
theorem dX12_live_107 : decode cX12_live 107 = .ok (.iconst 1, 1) := by decide +kernel
theorem dX12_live_108 : decode cX12_live 108 = .ok (.iadd, 1) := by decide +kernel
theorem dX12_live_109 : decode cX12_live 109 = .ok (.iastore, 1) := by decide +kernel
theorem dX12_live_110 : decode cX12_live 110 = .ok (.iconst 0, 1) := by decide +kernel
theorem dX12_live_111 : decode cX12_live 111 = .ok (.istore_n 2, 1) := by decide +kernel
theorem dX12_live_112 : decode cX12_live 112 = .ok (.iload_n 2, 1) := by decide +kernel
theorem dX12_live_113 : decode cX12_live 113 = .ok (.aload_n 0, 1) := by decide +kernel
theorem dX12_live_114 : decode cX12_live 114 = .ok (.getfield 245, 3) := by decide +kernel
theorem dX12_live_117 : decode cX12_live 117 = .ok (.if_icmp .ge 100, 3) := by decide +kernel
theorem dX12_live_120 : decode cX12_live 120 = .ok (.aload_n 0, 1) := by decide +kernel
theorem dX12_live_121 : decode cX12_live 121 = .ok (.getfield 307, 3) := by decide +kernel
theorem dX12_live_124 : decode cX12_live 124 = .ok (.iload_n 2, 1) := by decide +kernel
theorem dX12_live_125 : decode cX12_live 125 = .ok (.invokestatic 216, 3) := by decide +kernel
theorem dX12_live_128 : decode cX12_live 128 = .ok (.istore_n 3, 1) := by decide +kernel
theorem dX12_live_129 : decode cX12_live 129 = .ok (.aload_n 0, 1) := by decide +kernel
theorem dX12_live_130 : decode cX12_live 130 = .ok (.getfield 58, 3) := by decide +kernel
theorem dX12_live_133 : decode cX12_live 133 = .ok (.bipush 24, 2) := by decide +kernel
theorem dX12_live_135 : decode cX12_live 135 = .ok (.iload_n 2, 1) := by decide +kernel
theorem dX12_live_136 : decode cX12_live 136 = .ok (.iadd, 1) := by decide +kernel
theorem dX12_live_137 : decode cX12_live 137 = .ok (.iconst 0, 1) := by decide +kernel
theorem dX12_live_138 : decode cX12_live 138 = .ok (.bipush 9, 2) := by decide +kernel
theorem dX12_live_140 : decode cX12_live 140 = .ok (.aload_n 0, 1) := by decide +kernel
theorem dX12_live_141 : decode cX12_live 141 = .ok (.getfield 58, 3) := by decide +kernel
theorem dX12_live_144 : decode cX12_live 144 = .ok (.bipush 24, 2) := by decide +kernel
theorem dX12_live_146 : decode cX12_live 146 = .ok (.iload_n 2, 1) := by decide +kernel
theorem dX12_live_147 : decode cX12_live 147 = .ok (.iadd, 1) := by decide +kernel
theorem dX12_live_148 : decode cX12_live 148 = .ok (.iaload, 1) := by decide +kernel
theorem dX12_live_149 : decode cX12_live 149 = .ok (.iload_n 3, 1) := by decide +kernel
theorem dX12_live_150 : decode cX12_live 150 = .ok (.ifCond .eq 7, 3) := by decide +kernel
theorem dX12_live_153 : decode cX12_live 153 = .ok (.iconst 1, 1) := by decide +kernel
theorem dX12_live_154 : decode cX12_live 154 = .ok (.goto 4, 3) := by decide +kernel
theorem dX12_live_157 : decode cX12_live 157 = .ok (.iconst (-1), 1) := by decide +kernel
theorem dX12_live_158 : decode cX12_live 158 = .ok (.iadd, 1) := by decide +kernel
theorem dX12_live_159 : decode cX12_live 159 = .ok (.invokestatic 267, 3) := by decide +kernel
theorem dX12_live_162 : decode cX12_live 162 = .ok (.invokestatic 269, 3) := by decide +kernel
theorem dX12_live_165 : decode cX12_live 165 = .ok (.iastore, 1) := by decide +kernel
theorem dX12_live_166 : decode cX12_live 166 = .ok (.aload_n 0, 1) := by decide +kernel
theorem dX12_live_167 : decode cX12_live 167 = .ok (.getfield 58, 3) := by decide +kernel
theorem dX12_live_170 : decode cX12_live 170 = .ok (.bipush 32, 2) := by decide +kernel
theorem dX12_live_172 : decode cX12_live 172 = .ok (.iload_n 3, 1) := by decide +kernel
theorem dX12_live_173 : decode cX12_live 173 = .ok (.ifCond .eq 13, 3) := by decide +kernel
theorem dX12_live_176 : decode cX12_live 176 = .ok (.aload_n 0, 1) := by decide +kernel
theorem dX12_live_177 : decode cX12_live 177 = .ok (.getfield 58, 3) := by decide +kernel
theorem dX12_live_180 : decode cX12_live 180 = .ok (.bipush 32, 2) := by decide +kernel
theorem dX12_live_182 : decode cX12_live 182 = .ok (.iaload, 1) := by decide +kernel
theorem dX12_live_183 : decode cX12_live 183 = .ok (.goto 27, 3) := by decide +kernel
theorem dX12_live_186 : decode cX12_live 186 = .ok (.sipush 9999, 3) := by decide +kernel
theorem dX12_live_189 : decode cX12_live 189 = .ok (.aload_n 0, 1) := by decide +kernel
theorem dX12_live_190 : decode cX12_live 190 = .ok (.getfield 58, 3) := by decide +kernel
theorem dX12_live_193 : decode cX12_live 193 = .ok (.bipush 32, 2) := by decide +kernel
theorem dX12_live_195 : decode cX12_live 195 = .ok (.iaload, 1) := by decide +kernel
theorem dX12_live_196 : decode cX12_live 196 = .ok (.aload_n 0, 1) := by decide +kernel
theorem dX12_live_197 : decode cX12_live 197 = .ok (.getfield 55, 3) := by decide +kernel
theorem dX12_live_200 : decode cX12_live 200 = .ok (.iconst 3, 1) := by decide +kernel
theorem dX12_live_201 : decode cX12_live 201 = .ok (.iload_n 2, 1) := by decide +kernel
theorem dX12_live_202 : decode cX12_live 202 = .ok (.imul, 1) := by decide +kernel
theorem dX12_live_203 : decode cX12_live 203 = .ok (.iconst 2, 1) := by decide +kernel
theorem dX12_live_204 : decode cX12_live 204 = .ok (.iadd, 1) := by decide +kernel
theorem dX12_live_205 : decode cX12_live 205 = .ok (.iaload, 1) := by decide +kernel
theorem dX12_live_206 : decode cX12_live 206 = .ok (.iadd, 1) := by decide +kernel
theorem dX12_live_207 : decode cX12_live 207 = .ok (.invokestatic 267, 3) := by decide +kernel
theorem dX12_live_210 : decode cX12_live 210 = .ok (.iastore, 1) := by decide +kernel
theorem dX12_live_211 : decode cX12_live 211 = .ok (.iinc 2 1, 3) := by decide +kernel
theorem dX12_live_214 : decode cX12_live 214 = .ok (.goto (-102), 3) := by decide +kernel
theorem dX12_live_217 : decode cX12_live 217 = .ok (.aload_n 0, 1) := by decide +kernel
theorem dX12_live_218 : decode cX12_live 218 = .ok (.getfield 58, 3) := by decide +kernel
theorem dX12_live_221 : decode cX12_live 221 = .ok (.bipush 33, 2) := by decide +kernel
theorem dX12_live_223 : decode cX12_live 223 = .ok (.sipush 999, 3) := by decide +kernel
theorem dX12_live_226 : decode cX12_live 226 = .ok (.aload_n 0, 1) := by decide +kernel
theorem dX12_live_227 : decode cX12_live 227 = .ok (.getfield 58, 3) := by decide +kernel
theorem dX12_live_230 : decode cX12_live 230 = .ok (.bipush 33, 2) := by decide +kernel
theorem dX12_live_232 : decode cX12_live 232 = .ok (.iaload, 1) := by decide +kernel
theorem dX12_live_233 : decode cX12_live 233 = .ok (.iconst 3, 1) := by decide +kernel
theorem dX12_live_234 : decode cX12_live 234 = .ok (.iadd, 1) := by decide +kernel
theorem dX12_live_235 : decode cX12_live 235 = .ok (.invokestatic 267, 3) := by decide +kernel
theorem dX12_live_238 : decode cX12_live 238 = .ok (.iastore, 1) := by decide +kernel
theorem dX12_live_239 : decode cX12_live 239 = .ok (.aload_n 0, 1) := by decide +kernel
theorem dX12_live_240 : decode cX12_live 240 = .ok (.getfield 58, 3) := by decide +kernel
theorem dX12_live_243 : decode cX12_live 243 = .ok (.bipush 36, 2) := by decide +kernel
theorem dX12_live_245 : decode cX12_live 245 = .ok (.dup2, 1) := by decide +kernel
theorem dX12_live_246 : decode cX12_live 246 = .ok (.iaload, 1) := by decide +kernel
theorem dX12_live_247 : decode cX12_live 247 = .ok (.iconst 1, 1) := by decide +kernel
theorem dX12_live_248 : decode cX12_live 248 = .ok (.iadd, 1) := by decide +kernel
theorem dX12_live_249 : decode cX12_live 249 = .ok (.iastore, 1) := by decide +kernel
theorem dX12_live_250 : decode cX12_live 250 = .ok (.iconst 0, 1) := by decide +kernel
theorem dX12_live_251 : decode cX12_live 251 = .ok (.istore_n 2, 1) := by decide +kernel
theorem dX12_live_252 : decode cX12_live 252 = .ok (.iload_n 2, 1) := by decide +kernel
theorem dX12_live_253 : decode cX12_live 253 = .ok (.bipush 18, 2) := by decide +kernel
theorem dX12_live_255 : decode cX12_live 255 = .ok (.if_icmp .ge 18, 3) := by decide +kernel
theorem dX12_live_258 : decode cX12_live 258 = .ok (.aload_n 0, 1) := by decide +kernel
theorem dX12_live_259 : decode cX12_live 259 = .ok (.getfield 58, 3) := by decide +kernel
theorem dX12_live_262 : decode cX12_live 262 = .ok (.iconst 0, 1) := by decide +kernel
theorem dX12_live_263 : decode cX12_live 263 = .ok (.iload_n 2, 1) := by decide +kernel
theorem dX12_live_264 : decode cX12_live 264 = .ok (.iadd, 1) := by decide +kernel
theorem dX12_live_265 : decode cX12_live 265 = .ok (.iconst 0, 1) := by decide +kernel
theorem dX12_live_266 : decode cX12_live 266 = .ok (.iastore, 1) := by decide +kernel
theorem dX12_live_267 : decode cX12_live 267 = .ok (.iinc 2 1, 3) := by decide +kernel
theorem dX12_live_270 : decode cX12_live 270 = .ok (.goto (-18), 3) := by decide +kernel
theorem dX12_live_273 : decode cX12_live 273 = .ok (.aload_n 0, 1) := by decide +kernel
theorem dX12_live_274 : decode cX12_live 274 = .ok (.getfield 58, 3) := by decide +kernel
theorem dX12_live_277 : decode cX12_live 277 = .ok (.bipush 30, 2) := by decide +kernel
theorem dX12_live_279 : decode cX12_live 279 = .ok (.iconst 0, 1) := by decide +kernel
theorem dX12_live_280 : decode cX12_live 280 = .ok (.iastore, 1) := by decide +kernel
theorem dX12_live_281 : decode cX12_live 281 = .ok (.aload_n 0, 1) := by decide +kernel
theorem dX12_live_282 : decode cX12_live 282 = .ok (.getfield 58, 3) := by decide +kernel
theorem dX12_live_285 : decode cX12_live 285 = .ok (.bipush 29, 2) := by decide +kernel
theorem dX12_live_287 : decode cX12_live 287 = .ok (.iconst 0, 1) := by decide +kernel
theorem dX12_live_288 : decode cX12_live 288 = .ok (.iastore, 1) := by decide +kernel
theorem dX12_live_289 : decode cX12_live 289 = .ok (.return_, 1) := by decide +kernel
set_option maxHeartbeats 4000000 in
set_option maxRecDepth 100000 in
theorem ctM_live (μ : Mm) (h : MG μ) (hy : μ.1 17 36 ≤ 1099) : CtV PM 8 yX12_live cX12_live 4 none [vR 0] μ (fun m => (m.1 0 31 = chM μ ∧ m.1 0 32 = brM μ ∧ m.1 0 33 = tmM μ) ∧ m.1 17 = liveF μ ∧ OffL μ m) := by
  refine ct_intro [some (vR 0), none, none, none] RX12 (by decide) rfl XM rfl (Nat.le_of_ble_eq_true rfl) (fun K hO => ?_)
  have hn := h.1.now
  have hr := hn.rest
  have hnt := h.1.nt
  have hnp := h.1.np
  have hpk := pickM_rng μ (μ.1 0 25).toNat
  have hhm := best_rng (mayM μ) (appealM μ) (μ.1 0 25).toNat
  rw [show best (mayM μ) (appealM μ) (μ.1 0 25).toNat = himM μ (μ.1 0 25).toNat from rfl] at hhm
  rw [show pickM μ (μ.1 0 25).toNat = chM μ from rfl] at hpk
  have tail : ∀ (m : Mm), LvS μ (trbF (crownF (μ.1 17) (chM μ) (brM μ)) (tmM μ) (fun t => μ.1 16 (3 * t + 2)) (μ.1 0 26).toNat) m → AW K 217 [some (vR 0), none, none, none] [] m := by
    intro m hL_m
    have hcr : ∀ i, i < 18 ∨ 24 ≤ i → i ≠ 34 → i ≠ 35 → crownF (μ.1 17) (chM μ) (brM μ) i = μ.1 17 i := fun i a b c => crownF_ne (by omega) a b c
    have g33 : trbF (crownF (μ.1 17) (chM μ) (brM μ)) (tmM μ) (fun t => μ.1 16 (3 * t + 2)) (μ.1 0 26).toNat 33 = μ.1 17 33 := by rw [trbF_ne (by omega) _ (by omega), hcr _ (by omega) (by omega) (by omega)]
    have g36 : trbF (crownF (μ.1 17) (chM μ) (brM μ)) (tmM μ) (fun t => μ.1 16 (3 * t + 2)) (μ.1 0 26).toNat 36 = μ.1 17 36 := by rw [trbF_ne (by omega) _ (by omega), hcr _ (by omega) (by omega) (by omega)]
    have hfin : liveF μ = endF (trbF (crownF (μ.1 17) (chM μ) (brM μ)) (tmM μ) (fun t => μ.1 16 (3 * t + 2)) (μ.1 0 26).toNat) := rfl
    generalize trbF (crownF (μ.1 17) (chM μ) (brM μ)) (tmM μ) (fun t => μ.1 16 (3 * t + 2)) (μ.1 0 26).toNat = G at hL_m g33 g36 hfin
    have lp : ∀ (c : Nat) (k : Nat) (m2 : Mm), (k + c = 18) → (LvS μ (fun i => if i < k then 0 else (fu (fu G 33 (min 999 (G 33 + 3))) 36 (G 36 + 1)) i) m2) → AW K 252 [some (vR 0), none, some (vI ((k : Nat) : Int)), none] [] m2 := by
      intro c
      induction c with
      | zero =>
        intro k m2 hk hL_m2
        refine aw_iload_n hO dX12_live_252 rfl rfl ?_
        refine aw_bipush hO dX12_live_253 rfl (by decide) (by decide) ?_
        refine aw_icmp_ge (tgt := 273) hO dX12_live_255 rfl rfl (inRn (by omega)) (inRlit _) (fun c255 => ?_) (fun c255 => ?_)
        · refine aw_aload_n hO dX12_live_273 rfl rfl ?_
          refine gM_now hO dX12_live_274 rfl ?_
          refine aw_bipush hO dX12_live_277 rfl (by decide) (by decide) ?_
          refine aw_iconst hO dX12_live_279 rfl ?_
          refine aw_iastn (N := 218) (i := 30) hO dX12_live_280 rfl (by decide) rfl (by decide) rfl (by decide) ?_
          refine aw_mm (fun μ1 e_μ1 => ?_)
          have hL_μ1 : LvS μ (fu (fun i => if i < k then 0 else (fu (fu G 33 (min 999 (G 33 + 3))) 36 (G 36 + 1)) i) 30 0) μ1 := by rw [e_μ1]; exact hL_m2.wr _ _
          refine aw_aload_n hO dX12_live_281 rfl rfl ?_
          refine gM_now hO dX12_live_282 rfl ?_
          refine aw_bipush hO dX12_live_285 rfl (by decide) (by decide) ?_
          refine aw_iconst hO dX12_live_287 rfl ?_
          refine aw_iastn (N := 218) (i := 29) hO dX12_live_288 rfl (by decide) rfl (by decide) rfl (by decide) ?_
          refine aw_mm (fun μ2 e_μ2 => ?_)
          have hL_μ2 : LvS μ (fu (fu (fun i => if i < k then 0 else (fu (fu G 33 (min 999 (G 33 + 3))) 36 (G 36 + 1)) i) 30 0) 29 0) μ2 := by rw [e_μ2]; exact hL_μ1.wr _ _
          refine aw_vret hO dX12_live_289 ?_
          exact ⟨rfl, ⟨hL_μ2.2.1, by rw [hL_μ2.1, hfin]; funext i; unfold endF fu; by_cases q1 : i = 29 <;> by_cases q2 : i = 30 <;> by_cases q3 : i < 18 <;> by_cases q4 : i = 36 <;> by_cases q5 : i = 33 <;> simp [q1, q2, q3, q4, q5, show k = 18 by omega] <;> omega, hL_μ2.2.2⟩⟩
        · exact absurd c255 (by omega)
      | succ c ih =>
        intro k m2 hk hL_m2
        refine aw_iload_n hO dX12_live_252 rfl rfl ?_
        refine aw_bipush hO dX12_live_253 rfl (by decide) (by decide) ?_
        refine aw_icmp_ge (tgt := 273) hO dX12_live_255 rfl rfl (inRn (by omega)) (inRlit _) (fun c255 => ?_) (fun c255 => ?_)
        · exact absurd c255 (by omega)
        · refine aw_aload_n hO dX12_live_258 rfl rfl ?_
          refine gM_now hO dX12_live_259 rfl ?_
          refine aw_iconst hO dX12_live_262 rfl ?_
          refine aw_iload_n hO dX12_live_263 rfl rfl ?_
          refine aw_iadd hO dX12_live_264 rfl ?_
          refine aw_iconst hO dX12_live_265 rfl ?_
          refine aw_iastn (N := 218) (i := k) hO dX12_live_266 rfl (by decide) rfl (by decide) (by omega) (by omega) ?_
          refine aw_mm (fun μ3 e_μ3 => ?_)
          have hL_μ3 : LvS μ (fu (fun i => if i < k then 0 else (fu (fu G 33 (min 999 (G 33 + 3))) 36 (G 36 + 1)) i) k 0) μ3 := by rw [e_μ3]; exact hL_m2.wr _ _
          refine aw_iinc (ls' := [some (vR 0), none, some (vI (((k : Nat) : Int) + 1)), none]) hO dX12_live_267 rfl rfl rfl rfl ?_
          refine aw_lsq (ls' := [some (vR 0), none, some (vI (((k + 1) : Nat) : Int)), none]) rfl ?_
          refine aw_goto (tgt := 252) hO dX12_live_270 rfl ?_
          refine aw_lsq (ls' := [some (vR 0), none, some (vI (((k + 1) : Nat) : Int)), none]) rfl ?_
          exact ih (k + 1) μ3 (by omega) (by rw [show (fun i => if i < k + 1 then 0 else (fu (fu G 33 (min 999 (G 33 + 3))) 36 (G 36 + 1)) i) = fu (fun i => if i < k then 0 else (fu (fu G 33 (min 999 (G 33 + 3))) 36 (G 36 + 1)) i) k 0 from by funext i; unfold fu; by_cases q : i = k <;> by_cases q2 : i < k <;> simp [q, q2] <;> omega]; exact hL_μ3)
    refine aw_aload_n hO dX12_live_217 rfl rfl ?_
    refine gM_now hO dX12_live_218 rfl ?_
    refine aw_bipush hO dX12_live_221 rfl (by decide) (by decide) ?_
    refine aw_sipush hO dX12_live_223 rfl (by decide) (by decide) ?_
    refine aw_aload_n hO dX12_live_226 rfl rfl ?_
    refine gM_now hO dX12_live_227 rfl ?_
    refine aw_bipush hO dX12_live_230 rfl (by decide) (by decide) ?_
    refine aw_ialdn (N := 218) (i := 33) hO dX12_live_232 rfl (by decide) rfl (by decide) rfl (by decide) ?_
    refine aw_cg (congrFun hL_m.1 33) ?_
    refine aw_iconst hO dX12_live_233 rfl ?_
    refine aw_iadd hO dX12_live_234 rfl ?_
    refine aw_mmin hO dX12_live_235 rfl (lw_t7 37 rfl rfl) mth_min (by decide) rfl (Nat.le_of_ble_eq_true rfl) (inRlit _) ⟨by omega, by omega⟩ ?_
    refine aw_iastn (N := 218) (i := 33) hO dX12_live_238 rfl (by decide) rfl (by decide) rfl (by decide) ?_
    refine aw_mm (fun μ4 e_μ4 => ?_)
    have hL_μ4 : LvS μ (fu G 33 (min 999 ((G 33) + 3))) μ4 := by rw [e_μ4]; exact hL_m.wr _ _
    refine aw_aload_n hO dX12_live_239 rfl rfl ?_
    refine gM_now hO dX12_live_240 rfl ?_
    refine aw_bipush hO dX12_live_243 rfl (by decide) (by decide) ?_
    refine aw_dup2 hO dX12_live_245 rfl rfl rfl ?_
    refine aw_ialdn (N := 218) (i := 36) hO dX12_live_246 rfl (by decide) rfl (by decide) rfl (by decide) ?_
    refine aw_cg (congrFun hL_μ4.1 36) ?_
    refine aw_cg (show fu G 33 (min 999 (G 33 + 3)) 36 = G 36 from fu_ne (by omega)) ?_
    refine aw_iconst hO dX12_live_247 rfl ?_
    refine aw_iadd hO dX12_live_248 rfl ?_
    refine aw_iastn (N := 218) (i := 36) hO dX12_live_249 rfl (by decide) rfl (by decide) rfl (by decide) ?_
    refine aw_mm (fun μ5 e_μ5 => ?_)
    have hL_μ5 : LvS μ (fu (fu G 33 (min 999 ((G 33) + 3))) 36 ((G 36) + 1)) μ5 := by rw [e_μ5]; exact hL_μ4.wr _ _
    refine aw_iconst hO dX12_live_250 rfl ?_
    refine aw_istore_n (ls' := [some (vR 0), none, some (vI 0), none]) hO dX12_live_251 rfl (Nat.le_of_ble_eq_true rfl) rfl rfl ?_
    refine aw_lsq (ls' := [some (vR 0), none, some (vI ((0 : Nat) : Int)), none]) rfl ?_
    exact lp 18 0 μ5 rfl (by rw [show (fun i => if i < 0 then 0 else (fu (fu G 33 (min 999 (G 33 + 3))) 36 (G 36 + 1)) i) = (fu (fu G 33 (min 999 (G 33 + 3))) 36 (G 36 + 1)) from by funext i; simp]; exact hL_μ5)
  have hcr : ∀ i, i < 18 ∨ 24 ≤ i → i ≠ 34 → i ≠ 35 → (crownF (μ.1 17) (chM μ) (brM μ)) i = μ.1 17 i := fun i a b c => crownF_ne (by omega) a b c
  have htr := trbF_rng (M := (μ.1 0 26).toNat) (by omega) (f := (crownF (μ.1 17) (chM μ) (brM μ))) (tm := tmM μ) (gr := fun t => μ.1 16 (3 * t + 2)) (fun t ht => by rw [hcr _ (by omega) (by omega) (by omega)]; exact hn.ask (by omega) (by omega)) (by rw [hcr _ (by omega) (by omega) (by omega)]; omega) (fun t ht => (h.1.tr (t := t) (by omega)).2.2)
  have lp2 : ∀ (c : Nat) (t : Nat) (m3 : Mm), ((t : Int) + c = μ.1 0 26) → (LvS μ (trbF (crownF (μ.1 17) (chM μ) (brM μ)) (tmM μ) (fun t => μ.1 16 (3 * t + 2)) t) m3) → AW K 112 [some (vR 0), some (vI (himM μ (μ.1 0 25).toNat)), some (vI ((t : Nat) : Int)), none] [] m3 := by
    intro c
    induction c with
    | zero =>
      intro t m3 ht hL_m3
      refine aw_iload_n hO dX12_live_112 rfl rfl ?_
      refine aw_aload_n hO dX12_live_113 rfl rfl ?_
      refine gM_troubles hO dX12_live_114 rfl ?_
      refine aw_cg (hL_m3.2.2.1 0 26 (by decide) (by decide) (by decide) (by omega)) ?_
      refine aw_icmp_ge (tgt := 217) hO dX12_live_117 rfl rfl (inRn (by omega)) ⟨by omega, by omega⟩ (fun c117 => ?_) (fun c117 => ?_)
      · exact aw_fg (ls' := [some (vR 0), none, none, none]) ⟨rfl, trivial⟩ (tail m3 (by rw [show (μ.1 0 26).toNat = t by omega]; exact hL_m3))
      · exact absurd c117 (by omega)
    | succ c ih =>
      intro t m3 ht hL_m3
      refine aw_iload_n hO dX12_live_112 rfl rfl ?_
      refine aw_aload_n hO dX12_live_113 rfl rfl ?_
      refine gM_troubles hO dX12_live_114 rfl ?_
      refine aw_cg (hL_m3.2.2.1 0 26 (by decide) (by decide) (by decide) (by omega)) ?_
      refine aw_icmp_ge (tgt := 217) hO dX12_live_117 rfl rfl (inRn (by omega)) ⟨by omega, by omega⟩ (fun c117 => ?_) (fun c117 => ?_)
      · exact absurd c117 (by omega)
      · obtain ⟨hta, hth⟩ := htr t (by omega)
        have hat := hta t (by omega)
        have hgr := (h.1.tr (t := t) (by omega)).2.2
        refine aw_aload_n hO dX12_live_120 rfl rfl ?_
        refine gM_troublesMet hO dX12_live_121 rfl ?_
        refine aw_cg hL_m3.2.1.2.2 ?_
        refine aw_iload_n hO dX12_live_124 rfl rfl ?_
        refine aw_callSI (as := [vI (tmM μ), vI ((t : Nat) : Int)]) (st := []) hO dX12_live_125 rfl (lw_t6 155 rfl rfl) kX12_has (ctM_has m3 (tmM μ) t) (by decide) rfl rfl rfl (Nat.le_of_ble_eq_true rfl) ?_
        refine aw_istore_n (ls' := [some (vR 0), some (vI (himM μ (μ.1 0 25).toNat)), some (vI ((t : Nat) : Int)), some (vI (if hasB (tmM μ) t = true then 1 else 0))]) hO dX12_live_128 rfl (Nat.le_of_ble_eq_true rfl) rfl rfl ?_
        refine aw_aload_n hO dX12_live_129 rfl rfl ?_
        refine gM_now hO dX12_live_130 rfl ?_
        refine aw_bipush hO dX12_live_133 rfl (by decide) (by decide) ?_
        refine aw_iload_n hO dX12_live_135 rfl rfl ?_
        refine aw_iadd hO dX12_live_136 rfl ?_
        refine aw_iconst hO dX12_live_137 rfl ?_
        refine aw_bipush hO dX12_live_138 rfl (by decide) (by decide) ?_
        refine aw_aload_n hO dX12_live_140 rfl rfl ?_
        refine gM_now hO dX12_live_141 rfl ?_
        refine aw_bipush hO dX12_live_144 rfl (by decide) (by decide) ?_
        refine aw_iload_n hO dX12_live_146 rfl rfl ?_
        refine aw_iadd hO dX12_live_147 rfl ?_
        refine aw_ialdn (N := 218) (i := (24 + t)) hO dX12_live_148 rfl (by decide) rfl (by decide) (by omega) (by omega) ?_
        refine aw_cg (congrFun hL_m3.1 (24 + t)) ?_
        refine aw_iload_n hO dX12_live_149 rfl rfl ?_
        refine aw_if_eq (tgt := 157) hO dX12_live_150 rfl rfl ⟨by split <;> omega, by split <;> omega⟩ (fun c150 => ?_) (fun c150 => ?_)
        · have hb : ¬ hasB (tmM μ) t = true := fun e => by rw [if_pos e] at c150; omega
          refine aw_iconst hO dX12_live_157 rfl ?_
          refine aw_iadd hO dX12_live_158 rfl ?_
          refine aw_mmin hO dX12_live_159 rfl (lw_t7 37 rfl rfl) mth_min (by decide) rfl (Nat.le_of_ble_eq_true rfl) (inRlit _) ⟨by omega, by omega⟩ ?_
          refine aw_mmax hO dX12_live_162 rfl (lw_t7 71 rfl rfl) mth_max (by decide) rfl (Nat.le_of_ble_eq_true rfl) (inRlit _) ⟨by omega, by omega⟩ ?_
          refine aw_iastn (N := 218) (i := (24 + t)) hO dX12_live_165 rfl (by decide) rfl (by decide) (by omega) (by omega) ?_
          refine aw_mm (fun μ6 e_μ6 => ?_)
          have hL_μ6 : LvS μ (fu (trbF (crownF (μ.1 17) (chM μ) (brM μ)) (tmM μ) (fun t => μ.1 16 (3 * t + 2)) t) (24 + t) (max 0 (min 9 (((trbF (crownF (μ.1 17) (chM μ) (brM μ)) (tmM μ) (fun t => μ.1 16 (3 * t + 2)) t) (24 + t)) + (-1))))) μ6 := by rw [e_μ6]; exact hL_m3.wr _ _
          refine aw_aload_n hO dX12_live_166 rfl rfl ?_
          refine gM_now hO dX12_live_167 rfl ?_
          refine aw_bipush hO dX12_live_170 rfl (by decide) (by decide) ?_
          refine aw_iload_n hO dX12_live_172 rfl rfl ?_
          refine aw_if_eq (tgt := 186) hO dX12_live_173 rfl rfl ⟨by split <;> omega, by split <;> omega⟩ (fun c173 => ?_) (fun c173 => ?_)
          · refine aw_sipush hO dX12_live_186 rfl (by decide) (by decide) ?_
            refine aw_aload_n hO dX12_live_189 rfl rfl ?_
            refine gM_now hO dX12_live_190 rfl ?_
            refine aw_bipush hO dX12_live_193 rfl (by decide) (by decide) ?_
            refine aw_ialdn (N := 218) (i := 32) hO dX12_live_195 rfl (by decide) rfl (by decide) rfl (by decide) ?_
            refine aw_cg (congrFun hL_μ6.1 32) ?_
            refine aw_cg (show ((fu (trbF (crownF (μ.1 17) (chM μ) (brM μ)) (tmM μ) (fun t => μ.1 16 (3 * t + 2)) t) (24 + t) (max 0 (min 9 (((trbF (crownF (μ.1 17) (chM μ) (brM μ)) (tmM μ) (fun t => μ.1 16 (3 * t + 2)) t) (24 + t)) + (-1))))) 32) = (trbF (crownF (μ.1 17) (chM μ) (brM μ)) (tmM μ) (fun t => μ.1 16 (3 * t + 2)) t) 32 from fu_ne (by omega)) ?_
            refine aw_aload_n hO dX12_live_196 rfl rfl ?_
            refine gM_trouble hO dX12_live_197 rfl ?_
            refine aw_iconst hO dX12_live_200 rfl ?_
            refine aw_iload_n hO dX12_live_201 rfl rfl ?_
            refine aw_imul hO dX12_live_202 rfl ?_
            refine aw_iconst hO dX12_live_203 rfl ?_
            refine aw_iadd hO dX12_live_204 rfl ?_
            refine aw_ialdn (N := 15) (i := (3 * t + 2)) hO dX12_live_205 rfl (by decide) rfl (by decide) (by omega) (by omega) ?_
            refine aw_cg (hL_μ6.2.2.1 16 (3 * t + 2) (by decide) (by decide) (by decide) (by omega)) ?_
            refine aw_iadd hO dX12_live_206 rfl ?_
            refine aw_mmin hO dX12_live_207 rfl (lw_t7 37 rfl rfl) mth_min (by decide) rfl (Nat.le_of_ble_eq_true rfl) (inRlit _) ⟨by omega, by omega⟩ ?_
            refine aw_iastn (N := 218) (i := 32) hO dX12_live_210 rfl (by decide) rfl (by decide) rfl (by decide) ?_
            refine aw_mm (fun μ7 e_μ7 => ?_)
            have hL_μ7 : LvS μ (fu (fu (trbF (crownF (μ.1 17) (chM μ) (brM μ)) (tmM μ) (fun t => μ.1 16 (3 * t + 2)) t) (24 + t) (max 0 (min 9 (((trbF (crownF (μ.1 17) (chM μ) (brM μ)) (tmM μ) (fun t => μ.1 16 (3 * t + 2)) t) (24 + t)) + (-1))))) 32 (min 9999 (((trbF (crownF (μ.1 17) (chM μ) (brM μ)) (tmM μ) (fun t => μ.1 16 (3 * t + 2)) t) 32) + (μ.1 16 (3 * t + 2))))) μ7 := by rw [e_μ7]; exact hL_μ6.wr _ _
            refine aw_iinc (ls' := [some (vR 0), some (vI (himM μ (μ.1 0 25).toNat)), some (vI (((t : Nat) : Int) + 1)), some (vI (if hasB (tmM μ) t = true then 1 else 0))]) hO dX12_live_211 rfl rfl rfl rfl ?_
            refine aw_lsq (ls' := [some (vR 0), some (vI (himM μ (μ.1 0 25).toNat)), some (vI (((t + 1) : Nat) : Int)), some (vI (if hasB (tmM μ) t = true then 1 else 0))]) rfl ?_
            refine aw_goto (tgt := 112) hO dX12_live_214 rfl ?_
            refine aw_fg (ls' := [some (vR 0), some (vI (himM μ (μ.1 0 25).toNat)), some (vI (((t + 1) : Nat) : Int)), none]) ⟨rfl, rfl, rfl, trivial⟩ ?_
            exact ih (t + 1) μ7 (by omega) (by rw [trbF, if_neg hb, if_neg hb]; exact hL_μ7)
          · first | exact absurd c173 c150 | exact absurd c150 c173
        · have hb : hasB (tmM μ) t = true := Classical.byContradiction (fun e => c150 (if_neg e))
          refine aw_iconst hO dX12_live_153 rfl ?_
          refine aw_goto (tgt := 158) hO dX12_live_154 rfl ?_
          refine aw_iadd hO dX12_live_158 rfl ?_
          refine aw_mmin hO dX12_live_159 rfl (lw_t7 37 rfl rfl) mth_min (by decide) rfl (Nat.le_of_ble_eq_true rfl) (inRlit _) ⟨by omega, by omega⟩ ?_
          refine aw_mmax hO dX12_live_162 rfl (lw_t7 71 rfl rfl) mth_max (by decide) rfl (Nat.le_of_ble_eq_true rfl) (inRlit _) ⟨by omega, by omega⟩ ?_
          refine aw_iastn (N := 218) (i := (24 + t)) hO dX12_live_165 rfl (by decide) rfl (by decide) (by omega) (by omega) ?_
          refine aw_mm (fun μ8 e_μ8 => ?_)
          have hL_μ8 : LvS μ (fu (trbF (crownF (μ.1 17) (chM μ) (brM μ)) (tmM μ) (fun t => μ.1 16 (3 * t + 2)) t) (24 + t) (max 0 (min 9 (((trbF (crownF (μ.1 17) (chM μ) (brM μ)) (tmM μ) (fun t => μ.1 16 (3 * t + 2)) t) (24 + t)) + 1)))) μ8 := by rw [e_μ8]; exact hL_m3.wr _ _
          refine aw_aload_n hO dX12_live_166 rfl rfl ?_
          refine gM_now hO dX12_live_167 rfl ?_
          refine aw_bipush hO dX12_live_170 rfl (by decide) (by decide) ?_
          refine aw_iload_n hO dX12_live_172 rfl rfl ?_
          refine aw_if_eq (tgt := 186) hO dX12_live_173 rfl rfl ⟨by split <;> omega, by split <;> omega⟩ (fun c173 => ?_) (fun c173 => ?_)
          · first | exact absurd c173 c150 | exact absurd c150 c173
          · refine aw_aload_n hO dX12_live_176 rfl rfl ?_
            refine gM_now hO dX12_live_177 rfl ?_
            refine aw_bipush hO dX12_live_180 rfl (by decide) (by decide) ?_
            refine aw_ialdn (N := 218) (i := 32) hO dX12_live_182 rfl (by decide) rfl (by decide) rfl (by decide) ?_
            refine aw_cg (congrFun hL_μ8.1 32) ?_
            refine aw_cg (show ((fu (trbF (crownF (μ.1 17) (chM μ) (brM μ)) (tmM μ) (fun t => μ.1 16 (3 * t + 2)) t) (24 + t) (max 0 (min 9 (((trbF (crownF (μ.1 17) (chM μ) (brM μ)) (tmM μ) (fun t => μ.1 16 (3 * t + 2)) t) (24 + t)) + 1)))) 32) = (trbF (crownF (μ.1 17) (chM μ) (brM μ)) (tmM μ) (fun t => μ.1 16 (3 * t + 2)) t) 32 from fu_ne (by omega)) ?_
            refine aw_goto (tgt := 210) hO dX12_live_183 rfl ?_
            refine aw_iastn (N := 218) (i := 32) hO dX12_live_210 rfl (by decide) rfl (by decide) rfl (by decide) ?_
            refine aw_mm (fun μ9 e_μ9 => ?_)
            have hL_μ9 : LvS μ (fu (fu (trbF (crownF (μ.1 17) (chM μ) (brM μ)) (tmM μ) (fun t => μ.1 16 (3 * t + 2)) t) (24 + t) (max 0 (min 9 (((trbF (crownF (μ.1 17) (chM μ) (brM μ)) (tmM μ) (fun t => μ.1 16 (3 * t + 2)) t) (24 + t)) + 1)))) 32 ((trbF (crownF (μ.1 17) (chM μ) (brM μ)) (tmM μ) (fun t => μ.1 16 (3 * t + 2)) t) 32)) μ9 := by rw [e_μ9]; exact hL_μ8.wr _ _
            refine aw_iinc (ls' := [some (vR 0), some (vI (himM μ (μ.1 0 25).toNat)), some (vI (((t : Nat) : Int) + 1)), some (vI (if hasB (tmM μ) t = true then 1 else 0))]) hO dX12_live_211 rfl rfl rfl rfl ?_
            refine aw_lsq (ls' := [some (vR 0), some (vI (himM μ (μ.1 0 25).toNat)), some (vI (((t + 1) : Nat) : Int)), some (vI (if hasB (tmM μ) t = true then 1 else 0))]) rfl ?_
            refine aw_goto (tgt := 112) hO dX12_live_214 rfl ?_
            refine aw_fg (ls' := [some (vR 0), some (vI (himM μ (μ.1 0 25).toNat)), some (vI (((t + 1) : Nat) : Int)), none]) ⟨rfl, rfl, rfl, trivial⟩ ?_
            exact ih (t + 1) μ9 (by omega) (by rw [trbF, if_pos hb, if_pos hb]; exact hL_μ9)
  have mid : ∀ m4 : Mm, LvS μ (μ.1 17) m4 → AW K 47 [some (vR 0), some (vI (himM μ (μ.1 0 25).toNat)), none, none] [] m4 := by
    intro m4 hL_m4
    refine aw_aload_n hO dX12_live_47 rfl rfl ?_
    refine gM_chosen hO dX12_live_48 rfl ?_
    refine aw_cg hL_m4.2.1.1 ?_
    refine aw_iconst hO dX12_live_51 rfl ?_
    refine aw_icmp_eq (tgt := 110) hO dX12_live_52 rfl rfl ⟨by omega, by omega⟩ (inRlit _) (fun c52 => ?_) (fun c52 => ?_)
    · refine aw_iconst hO dX12_live_110 rfl ?_
      refine aw_istore_n (ls' := [some (vR 0), some (vI (himM μ (μ.1 0 25).toNat)), some (vI 0), none]) hO dX12_live_111 rfl (Nat.le_of_ble_eq_true rfl) rfl rfl ?_
      refine aw_lsq (ls' := [some (vR 0), some (vI (himM μ (μ.1 0 25).toNat)), some (vI ((0 : Nat) : Int)), none]) rfl ?_
      exact lp2 (μ.1 0 26).toNat 0 m4 (by omega) (by rw [show trbF (crownF (μ.1 17) (chM μ) (brM μ)) (tmM μ) (fun t => μ.1 16 (3 * t + 2)) 0 = crownF (μ.1 17) (chM μ) (brM μ) from rfl, show crownF (μ.1 17) (chM μ) (brM μ) = μ.1 17 from if_pos c52]; exact hL_m4)
    · have hch : 0 ≤ chM μ ∧ chM μ < 6 := by omega
      have hcc := hn.cha (j := 18 + (chM μ).toNat) (by omega) (by omega)
      refine aw_aload_n hO dX12_live_55 rfl rfl ?_
      refine gM_now hO dX12_live_56 rfl ?_
      refine aw_bipush hO dX12_live_59 rfl (by decide) (by decide) ?_
      refine aw_aload_n hO dX12_live_61 rfl rfl ?_
      refine gM_chosen hO dX12_live_62 rfl ?_
      refine aw_cg hL_m4.2.1.1 ?_
      refine aw_iadd hO dX12_live_65 rfl ?_
      refine aw_bipush hO dX12_live_66 rfl (by decide) (by decide) ?_
      refine aw_aload_n hO dX12_live_68 rfl rfl ?_
      refine gM_now hO dX12_live_69 rfl ?_
      refine aw_bipush hO dX12_live_72 rfl (by decide) (by decide) ?_
      refine aw_aload_n hO dX12_live_74 rfl rfl ?_
      refine gM_chosen hO dX12_live_75 rfl ?_
      refine aw_cg hL_m4.2.1.1 ?_
      refine aw_iadd hO dX12_live_78 rfl ?_
      refine aw_ialdn (N := 218) (i := (18 + (chM μ).toNat)) hO dX12_live_79 rfl (by decide) rfl (by decide) (by omega) (by omega) ?_
      refine aw_cg (congrFun hL_m4.1 (18 + (chM μ).toNat)) ?_
      refine aw_iconst hO dX12_live_80 rfl ?_
      refine aw_iadd hO dX12_live_81 rfl ?_
      refine aw_mmin hO dX12_live_82 rfl (lw_t7 37 rfl rfl) mth_min (by decide) rfl (Nat.le_of_ble_eq_true rfl) (inRlit _) ⟨by omega, by omega⟩ ?_
      refine aw_iastn (N := 218) (i := (18 + (chM μ).toNat)) hO dX12_live_85 rfl (by decide) rfl (by decide) (by omega) (by omega) ?_
      refine aw_mm (fun μ10 e_μ10 => ?_)
      have hL_μ10 : LvS μ (fu (μ.1 17) (18 + (chM μ).toNat) (min 99 (((μ.1 17) (18 + (chM μ).toNat)) + 1))) μ10 := by rw [e_μ10]; exact hL_m4.wr _ _
      refine aw_aload_n hO dX12_live_86 rfl rfl ?_
      refine gM_now hO dX12_live_87 rfl ?_
      refine aw_aload_n hO dX12_live_90 rfl rfl ?_
      refine gM_byRest hO dX12_live_91 rfl ?_
      refine aw_cg hL_μ10.2.1.2.1 ?_
      refine aw_iconst hO dX12_live_94 rfl ?_
      refine aw_icmp_ne (tgt := 103) hO dX12_live_95 rfl rfl ⟨by unfold brM; split <;> omega, by unfold brM; split <;> omega⟩ (inRlit _) (fun c95 => ?_) (fun c95 => ?_)
      · refine aw_bipush hO dX12_live_103 rfl (by decide) (by decide) ?_
        refine aw_dup2 hO dX12_live_105 rfl rfl rfl ?_
        refine aw_ialdn (N := 218) (i := 35) hO dX12_live_106 rfl (by decide) rfl (by decide) rfl (by decide) ?_
        refine aw_cg (congrFun hL_μ10.1 35) ?_
        refine aw_cg (show ((fu (μ.1 17) (18 + (chM μ).toNat) (min 99 (((μ.1 17) (18 + (chM μ).toNat)) + 1))) 35) = μ.1 17 35 from fu_ne (by omega)) ?_
        refine aw_iconst hO dX12_live_107 rfl ?_
        refine aw_iadd hO dX12_live_108 rfl ?_
        refine aw_iastn (N := 218) (i := 35) hO dX12_live_109 rfl (by decide) rfl (by decide) rfl (by decide) ?_
        refine aw_mm (fun μ11 e_μ11 => ?_)
        have hL_μ11 : LvS μ (fu (fu (μ.1 17) (18 + (chM μ).toNat) (min 99 (((μ.1 17) (18 + (chM μ).toNat)) + 1))) 35 ((μ.1 17 35) + 1)) μ11 := by rw [e_μ11]; exact hL_μ10.wr _ _
        refine aw_iconst hO dX12_live_110 rfl ?_
        refine aw_istore_n (ls' := [some (vR 0), some (vI (himM μ (μ.1 0 25).toNat)), some (vI 0), none]) hO dX12_live_111 rfl (Nat.le_of_ble_eq_true rfl) rfl rfl ?_
        refine aw_lsq (ls' := [some (vR 0), some (vI (himM μ (μ.1 0 25).toNat)), some (vI ((0 : Nat) : Int)), none]) rfl ?_
        exact lp2 (μ.1 0 26).toNat 0 μ11 (by omega) (by rw [show trbF (crownF (μ.1 17) (chM μ) (brM μ)) (tmM μ) (fun t => μ.1 16 (3 * t + 2)) 0 = crownF (μ.1 17) (chM μ) (brM μ) from rfl]; unfold crownF; rw [if_neg c52, if_neg c95]; exact hL_μ11)
      · refine aw_bipush hO dX12_live_98 rfl (by decide) (by decide) ?_
        refine aw_goto (tgt := 105) hO dX12_live_100 rfl ?_
        refine aw_dup2 hO dX12_live_105 rfl rfl rfl ?_
        refine aw_ialdn (N := 218) (i := 34) hO dX12_live_106 rfl (by decide) rfl (by decide) rfl (by decide) ?_
        refine aw_cg (congrFun hL_μ10.1 34) ?_
        refine aw_cg (show ((fu (μ.1 17) (18 + (chM μ).toNat) (min 99 (((μ.1 17) (18 + (chM μ).toNat)) + 1))) 34) = μ.1 17 34 from fu_ne (by omega)) ?_
        refine aw_iconst hO dX12_live_107 rfl ?_
        refine aw_iadd hO dX12_live_108 rfl ?_
        refine aw_iastn (N := 218) (i := 34) hO dX12_live_109 rfl (by decide) rfl (by decide) rfl (by decide) ?_
        refine aw_mm (fun μ12 e_μ12 => ?_)
        have hL_μ12 : LvS μ (fu (fu (μ.1 17) (18 + (chM μ).toNat) (min 99 (((μ.1 17) (18 + (chM μ).toNat)) + 1))) 34 ((μ.1 17 34) + 1)) μ12 := by rw [e_μ12]; exact hL_μ10.wr _ _
        refine aw_iconst hO dX12_live_110 rfl ?_
        refine aw_istore_n (ls' := [some (vR 0), some (vI (himM μ (μ.1 0 25).toNat)), some (vI 0), none]) hO dX12_live_111 rfl (Nat.le_of_ble_eq_true rfl) rfl rfl ?_
        refine aw_lsq (ls' := [some (vR 0), some (vI (himM μ (μ.1 0 25).toNat)), some (vI ((0 : Nat) : Int)), none]) rfl ?_
        exact lp2 (μ.1 0 26).toNat 0 μ12 (by omega) (by rw [show trbF (crownF (μ.1 17) (chM μ) (brM μ)) (tmM μ) (fun t => μ.1 16 (3 * t + 2)) 0 = crownF (μ.1 17) (chM μ) (brM μ) from rfl]; unfold crownF; rw [if_neg c52, if_pos c95]; exact hL_μ12)
  have j32 : ∀ m5 : Mm, Sc s9 μ m5 → AW K 32 [some (vR 0), some (vI (himM μ (μ.1 0 25).toNat)), none, none] [vI (brM μ), vR 0] (mst m5 0 31 (chM μ)) := by
    intro m5 hS5
    refine aw_mm (fun m6 e6 => ?_)
    refine pM_byRest hO dX12_live_32 rfl ?_
    refine aw_mm (fun μ13 e_μ13 => ?_)
    refine aw_aload_n hO dX12_live_35 rfl rfl ?_
    refine aw_aload_n hO dX12_live_36 rfl rfl ?_
    refine aw_aload_n hO dX12_live_37 rfl rfl ?_
    refine gM_chosen hO dX12_live_38 rfl ?_
    refine aw_cg (show μ13.1 0 31 = chM μ by rw [e_μ13, e6, mst_ni (by decide), mst_eq]) ?_
    have hS7 : ∀ k i, k ≠ 0 → μ13.1 k i = m5.1 k i := fun k i hk => by rw [e_μ13, e6, mst_nk hk, mst_nk hk]
    have hf7 : ∀ k, k ≠ 0 → μ13.1 k = m5.1 k := fun k hk => funext fun i => hS7 k i hk
    have h026 : μ13.1 0 26 = μ.1 0 26 := by rw [e_μ13, e6, mst_ni (by decide), mst_ni (by decide), hS5.1 0 26 rfl]
    have h025 : μ13.1 0 25 = μ.1 0 25 := by rw [e_μ13, e6, mst_ni (by decide), mst_ni (by decide), hS5.1 0 25 rfl]
    have hMB : MB μ13 := by
      have q := (h.Sc hS5).1
      unfold MB at q ⊢
      rw [hf7 15 (by decide), hf7 16 (by decide), hf7 14 (by decide), hf7 17 (by decide), h025, h026]
      rw [hS5.1 0 25 rfl, hS5.1 0 26 rfl] at q
      exact q
    refine aw_callVI (as := [vI (chM μ)]) (st := [vR 0]) hO dX12_live_41 rfl (lw_t7 149 rfl rfl) kX12_metBy (T := TX12) rfl (by decide) rfl (ctM_metBy μ13 hMB (q := chM μ) (by omega) (by omega)) (by decide) rfl rfl rfl (Nat.le_of_ble_eq_true rfl) ?_
    refine aw_cg (show metM μ13 (chM μ) (μ13.1 0 26).toNat = tmM μ by rw [h026]; unfold tmM; rw [← metM_Sc hS5]; unfold metM; rw [hf7 15 (by decide), hf7 16 (by decide), hf7 17 (by decide)]) ?_
    refine pM_troublesMet hO dX12_live_44 rfl ?_
    refine aw_mm (fun μ14 e_μ14 => ?_)
    exact mid μ14 ⟨by rw [e_μ14, e_μ13, e6]; funext i; rw [mst_nk (by decide), mst_nk (by decide), mst_nk (by decide)]; exact hS5.1 17 i rfl, ⟨by simp [e_μ14, e_μ13, e6, mst], by simp [e_μ14, e_μ13, e6, mst], by simp [e_μ14, mst]⟩, fun k i a b c e => by rw [e_μ14, e_μ13, e6, ← hS5.1 k i (by unfold s9; simp [a, b])]; unfold mst; simp only; rw [if_neg (by omega), if_neg (by omega), if_neg (by omega)], by rw [e_μ14, e_μ13, e6]; exact hS5.2⟩
  refine aw_aload_n hO dX12_live_0 rfl rfl ?_
  refine aw_callVE (as := []) (st := []) hO dX12_live_1 rfl (lw_t7 104 rfl rfl) kX12_pickedByHim (T := TX12) rfl (by decide) rfl (ctM_pickedByHim μ h) (by decide) rfl rfl rfl (Nat.le_of_ble_eq_true rfl) (fun v15 μ16 hq17 => ?_)
  obtain ⟨e_v15, s_μ16⟩ := hq17
  subst e_v15
  refine aw_istore_n (ls' := [some (vR 0), some (vI (himM μ (μ.1 0 25).toNat)), none, none]) hO dX12_live_4 rfl (Nat.le_of_ble_eq_true rfl) rfl rfl ?_
  refine aw_aload_n hO dX12_live_5 rfl rfl ?_
  refine aw_aload_n hO dX12_live_6 rfl rfl ?_
  refine aw_callVE (as := []) (st := [vR 0]) hO dX12_live_7 rfl (lw_t7 141 rfl rfl) kX12_picked (T := TX12) rfl (by decide) rfl (ctM_picked μ16 (h.Sc s_μ16)) (by decide) rfl rfl rfl (Nat.le_of_ble_eq_true rfl) (fun v18 μ19 hq20 => ?_)
  obtain ⟨e_v18, s_μ19⟩ := hq20
  rw [pickM_Sc s_μ16, s_μ16.fn (k := 0) rfl, show pickM μ (μ.1 0 25).toNat = chM μ from rfl] at e_v18
  subst e_v18
  have hS5 := s_μ16.tr s_μ19
  refine pM_chosen hO dX12_live_10 rfl ?_
  refine aw_mm (fun μ21 e_μ21 => ?_)
  refine aw_aload_n hO dX12_live_13 rfl rfl ?_
  refine aw_aload_n hO dX12_live_14 rfl rfl ?_
  refine gM_chosen hO dX12_live_15 rfl ?_
  refine aw_cg (show μ21.1 0 31 = chM μ by rw [e_μ21, mst_eq]) ?_
  refine aw_iconst hO dX12_live_18 rfl ?_
  refine aw_icmp_eq (tgt := 31) hO dX12_live_19 rfl rfl ⟨by omega, by omega⟩ (inRlit _) (fun c19 => ?_) (fun c19 => ?_)
  · refine aw_iconst hO dX12_live_31 rfl ?_
    refine aw_cg (show (0 : Int) = brM μ from by unfold brM; rw [if_neg (fun q => q.1 c19)]) ?_
    rw [e_μ21]
    exact j32 μ19 hS5
  · refine aw_iload_n hO dX12_live_22 rfl rfl ?_
    refine aw_iconst hO dX12_live_23 rfl ?_
    refine aw_icmp_ne (tgt := 31) hO dX12_live_24 rfl rfl ⟨by omega, by omega⟩ (inRlit _) (fun c24 => ?_) (fun c24 => ?_)
    · refine aw_iconst hO dX12_live_31 rfl ?_
      refine aw_cg (show (0 : Int) = brM μ from by unfold brM; rw [if_neg (fun q => c24 q.2)]) ?_
      rw [e_μ21]
      exact j32 μ19 hS5
    · refine aw_iconst hO dX12_live_27 rfl ?_
      refine aw_goto (tgt := 32) hO dX12_live_28 rfl ?_
      refine aw_cg (show (1 : Int) = brM μ from by unfold brM; rw [if_pos ⟨c19, c24⟩]) ?_
      rw [e_μ21]
      exact j32 μ19 hS5
