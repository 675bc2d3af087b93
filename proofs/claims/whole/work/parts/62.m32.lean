
/-- the rows of persons that were read stay small, also those that were wrong -/
def RG (m : Mm) : Prop := ∀ i, i < 24 → 0 ≤ m.1 12 i ∧ m.1 12 i ≤ 99
/-- the town read so far -/
def TM (m : Mm) (s : Tw) : Prop := (∀ k, k < 4 → m.1 11 k = s.1.2 k) ∧ (m.1 0 20 = (s.2.1.1 : Int) ∧ m.1 0 21 = (s.2.2.1 : Int)) ∧ (∀ i, i < s.2.1.1 → ∀ k, k < 4 → m.1 12 (4 * i + k) = s.2.1.2 i k) ∧ ∀ i, i < s.2.2.1 → ∀ k, k < 3 → m.1 13 (3 * i + k) = s.2.2.2 i k
theorem RG.w0 {m m2 : Mm} {i : Nat} {v : Int} (h : RG m) (e : m2 = mst m 0 i v) : RG m2 := fun j hj => by rw [e, mst_nk (by decide)]; exact h j hj
theorem RG.it {m m2 : Mm} {c fr mn : Nat} (h : RG m) (hF : Fr (sI c fr mn) m m2) (hc : c ≠ 12 ∨ (mn = 4 ∧ ∀ j, j < mn → 0 ≤ m2.1 c (fr + j) ∧ m2.1 c (fr + j) ≤ 99)) (hc0 : c ≠ 0) : RG m2 := fun j hj => by
  by_cases e : c = 12 ∧ fr ≤ j ∧ j < fr + mn
  · have := (hc.resolve_left (fun n => n e.1)).2 (j - fr) (by omega)
    rw [e.1, show fr + (j - fr) = j by omega] at this
    exact this
  · rw [hF.1 12 j (by unfold sI; omega)]
    exact h j hj
theorem TM.w0 {m m2 : Mm} {s : Tw} {i : Nat} {v : Int} (h : TM m s) (e : m2 = mst m 0 i v) (hi : i ≠ 20 ∧ i ≠ 21) : TM m2 s := by
  rw [e]
  refine ⟨fun k hk => ?_, ⟨?_, ?_⟩, fun j hj k hk => ?_, fun j hj k hk => ?_⟩
  · rw [mst_nk (by decide)]; exact h.1 k hk
  · rw [mst_ni (by omega)]; exact h.2.1.1
  · rw [mst_ni (by omega)]; exact h.2.1.2
  · rw [mst_nk (by decide)]; exact h.2.2.1 j hj k hk
  · rw [mst_nk (by decide)]; exact h.2.2.2 j hj k hk
theorem TM.s {m m2 : Mm} {s : Tw} {r : Nat → Int} (h : TM m s) (hF : Fr (sI 11 0 4) m m2) (hr : ∀ j, j < 4 → m2.1 11 (0 + j) = r j) : TM m2 ((true, r), s.2) := by
  refine ⟨fun k hk => ?_, ⟨?_, ?_⟩, fun j hj k hk => ?_, fun j hj k hk => ?_⟩
  · have := hr k hk
    rw [Nat.zero_add] at this
    exact this
  · rw [hF.1 0 20 (by unfold sI; omega)]; exact h.2.1.1
  · rw [hF.1 0 21 (by unfold sI; omega)]; exact h.2.1.2
  · rw [hF.1 12 _ (by unfold sI; omega)]; exact h.2.2.1 j hj k hk
  · rw [hF.1 13 _ (by unfold sI; omega)]; exact h.2.2.2 j hj k hk
theorem TM.p {m m2 m3 : Mm} {s : Tw} {r : Nat → Int} (h : TM m s) (hF : Fr (sI 12 (4 * s.2.1.1) 4) m m2) (hr : ∀ j, j < 4 → m2.1 12 (4 * s.2.1.1 + j) = r j) (e : m3 = mst m2 0 20 ((s.2.1.1 : Int) + 1)) : TM m3 (s.1, (s.2.1.1 + 1, fuR s.2.1.2 s.2.1.1 r), s.2.2) := by
  rw [e]
  refine ⟨fun k hk => ?_, ⟨?_, ?_⟩, fun j hj k hk => ?_, fun j hj k hk => ?_⟩
  · rw [mst_nk (by decide), hF.1 11 _ (by unfold sI; omega)]; exact h.1 k hk
  · rw [mst_eq]; rfl
  · rw [mst_ni (by decide), hF.1 0 21 (by unfold sI; omega)]; exact h.2.1.2
  · dsimp only at hj ⊢
    rw [mst_nk (by decide)]
    by_cases ej : j = s.2.1.1
    · rw [ej, fuR_eq]; exact hr k hk
    · rw [fuR_ne ej, hF.1 12 _ (by unfold sI; omega)]; exact h.2.2.1 j (by omega) k hk
  · rw [mst_nk (by decide), hF.1 13 _ (by unfold sI; omega)]; exact h.2.2.2 j hj k hk
theorem TM.t {m m2 m3 : Mm} {s : Tw} {r : Nat → Int} (h : TM m s) (hF : Fr (sI 13 (3 * s.2.2.1) 3) m m2) (hr : ∀ j, j < 3 → m2.1 13 (3 * s.2.2.1 + j) = r j) (e : m3 = mst m2 0 21 ((s.2.2.1 : Int) + 1)) : TM m3 (s.1, s.2.1, (s.2.2.1 + 1, fuR s.2.2.2 s.2.2.1 r)) := by
  rw [e]
  refine ⟨fun k hk => ?_, ⟨?_, ?_⟩, fun j hj k hk => ?_, fun j hj k hk => ?_⟩
  · rw [mst_nk (by decide), hF.1 11 _ (by unfold sI; omega)]; exact h.1 k hk
  · rw [mst_ni (by decide), hF.1 0 20 (by unfold sI; omega)]; exact h.2.1.1
  · rw [mst_eq]; rfl
  · rw [mst_nk (by decide), hF.1 12 _ (by unfold sI; omega)]; exact h.2.2.1 j hj k hk
  · dsimp only at hj ⊢
    rw [mst_nk (by decide)]
    by_cases ej : j = s.2.2.1
    · rw [ej, fuR_eq]; exact hr k hk
    · rw [fuR_ne ej, hF.1 13 _ (by unfold sI; omega)]; exact h.2.2.2 j (by omega) k hk
/-- what reading a town writes -/
def sT (k i : Nat) : Prop := (k = 0 ∧ (i = 3 ∨ i = 4 ∨ i = 20 ∨ i = 21)) ∨ k = 11 ∨ k = 12 ∨ k = 13
theorem sI_T {c fr mn k i : Nat} (hc : c = 11 ∨ c = 12 ∨ c = 13) (h : sI c fr mn k i) : sT k i := by
  rcases h with h | h
  · exact Or.inl ⟨h.1, by have := h.2; omega⟩
  · exact Or.inr (by have := h.1; omega)
theorem dX12_readTown_0 : decode cX12_readTown 0 = .ok (.aload_n 0, 1) := by decide +kernel
theorem dX12_readTown_1 : decode cX12_readTown 1 = .ok (.iconst 0, 1) := by decide +kernel
theorem dX12_readTown_2 : decode cX12_readTown 2 = .ok (.putfield 100, 3) := by decide +kernel
theorem dX12_readTown_5 : decode cX12_readTown 5 = .ok (.aload_n 0, 1) := by decide +kernel
theorem dX12_readTown_6 : decode cX12_readTown 6 = .ok (.iconst (-1), 1) := by decide +kernel
theorem dX12_readTown_7 : decode cX12_readTown 7 = .ok (.putfield 107, 3) := by decide +kernel
theorem dX12_readTown_10 : decode cX12_readTown 10 = .ok (.aload_n 0, 1) := by decide +kernel
theorem dX12_readTown_11 : decode cX12_readTown 11 = .ok (.iconst 0, 1) := by decide +kernel
theorem dX12_readTown_12 : decode cX12_readTown 12 = .ok (.putfield 226, 3) := by decide +kernel
theorem dX12_readTown_15 : decode cX12_readTown 15 = .ok (.aload_n 0, 1) := by decide +kernel
theorem dX12_readTown_16 : decode cX12_readTown 16 = .ok (.iconst 0, 1) := by decide +kernel
theorem dX12_readTown_17 : decode cX12_readTown 17 = .ok (.putfield 229, 3) := by decide +kernel
theorem dX12_readTown_20 : decode cX12_readTown 20 = .ok (.iconst 0, 1) := by decide +kernel
theorem dX12_readTown_21 : decode cX12_readTown 21 = .ok (.istore_n 1, 1) := by decide +kernel
theorem dX12_readTown_22 : decode cX12_readTown 22 = .ok (.iconst 0, 1) := by decide +kernel
theorem dX12_readTown_23 : decode cX12_readTown 23 = .ok (.istore_n 2, 1) := by decide +kernel
theorem dX12_readTown_24 : decode cX12_readTown 24 = .ok (.iload_n 2, 1) := by decide +kernel
theorem dX12_readTown_25 : decode cX12_readTown 25 = .ok (.iconst 4, 1) := by decide +kernel
theorem dX12_readTown_26 : decode cX12_readTown 26 = .ok (.if_icmp .ge 21, 3) := by decide +kernel
theorem dX12_readTown_29 : decode cX12_readTown 29 = .ok (.aload_n 0, 1) := by decide +kernel
theorem dX12_readTown_30 : decode cX12_readTown 30 = .ok (.getfield 40, 3) := by decide +kernel
theorem dX12_readTown_33 : decode cX12_readTown 33 = .ok (.iload_n 2, 1) := by decide +kernel
theorem dX12_readTown_34 : decode cX12_readTown 34 = .ok (.bipush 115, 2) := by decide +kernel
theorem dX12_readTown_36 : decode cX12_readTown 36 = .ok (.iload_n 2, 1) := by decide +kernel
theorem dX12_readTown_37 : decode cX12_readTown 37 = .ok (.invokestatic 209, 3) := by decide +kernel
theorem dX12_readTown_40 : decode cX12_readTown 40 = .ok (.iastore, 1) := by decide +kernel
theorem dX12_readTown_41 : decode cX12_readTown 41 = .ok (.iinc 2 1, 3) := by decide +kernel
theorem dX12_readTown_44 : decode cX12_readTown 44 = .ok (.goto (-20), 3) := by decide +kernel
theorem dX12_readTown_47 : decode cX12_readTown 47 = .ok (.iconst 1, 1) := by decide +kernel
theorem dX12_readTown_48 : decode cX12_readTown 48 = .ok (.istore_n 2, 1) := by decide +kernel
theorem dX12_readTown_49 : decode cX12_readTown 49 = .ok (.iload_n 2, 1) := by decide +kernel
theorem dX12_readTown_50 : decode cX12_readTown 50 = .ok (.ifCond .eq 207, 3) := by decide +kernel
theorem dX12_readTown_53 : decode cX12_readTown 53 = .ok (.aload_n 0, 1) := by decide +kernel
theorem dX12_readTown_54 : decode cX12_readTown 54 = .ok (.getfield 107, 3) := by decide +kernel
theorem dX12_readTown_57 : decode cX12_readTown 57 = .ok (.iconst (-1), 1) := by decide +kernel
theorem dX12_readTown_58 : decode cX12_readTown 58 = .ok (.if_icmp .ne 199, 3) := by decide +kernel
theorem dX12_readTown_61 : decode cX12_readTown 61 = .ok (.aload_n 0, 1) := by decide +kernel
theorem dX12_readTown_62 : decode cX12_readTown 62 = .ok (.invokevirtual 119, 3) := by decide +kernel
theorem dX12_readTown_65 : decode cX12_readTown 65 = .ok (.istore_n 3, 1) := by decide +kernel
theorem dX12_readTown_66 : decode cX12_readTown 66 = .ok (.iload_n 3, 1) := by decide +kernel
theorem dX12_readTown_67 : decode cX12_readTown 67 = .ok (.bipush 115, 2) := by decide +kernel
theorem dX12_readTown_69 : decode cX12_readTown 69 = .ok (.if_icmp .ne 33, 3) := by decide +kernel
theorem dX12_readTown_72 : decode cX12_readTown 72 = .ok (.iload_n 1, 1) := by decide +kernel
theorem dX12_readTown_73 : decode cX12_readTown 73 = .ok (.ifCond .ne 29, 3) := by decide +kernel
theorem dX12_readTown_76 : decode cX12_readTown 76 = .ok (.iconst 1, 1) := by decide +kernel
theorem dX12_readTown_77 : decode cX12_readTown 77 = .ok (.istore_n 1, 1) := by decide +kernel
theorem dX12_readTown_78 : decode cX12_readTown 78 = .ok (.aload_n 0, 1) := by decide +kernel
theorem dX12_readTown_79 : decode cX12_readTown 79 = .ok (.dup, 1) := by decide +kernel
theorem dX12_readTown_80 : decode cX12_readTown 80 = .ok (.getfield 100, 3) := by decide +kernel
theorem dX12_readTown_83 : decode cX12_readTown 83 = .ok (.iconst 1, 1) := by decide +kernel
theorem dX12_readTown_84 : decode cX12_readTown 84 = .ok (.iadd, 1) := by decide +kernel
theorem dX12_readTown_85 : decode cX12_readTown 85 = .ok (.putfield 100, 3) := by decide +kernel
theorem dX12_readTown_88 : decode cX12_readTown 88 = .ok (.aload_n 0, 1) := by decide +kernel
theorem dX12_readTown_89 : decode cX12_readTown 89 = .ok (.iload_n 3, 1) := by decide +kernel
theorem dX12_readTown_90 : decode cX12_readTown 90 = .ok (.aload_n 0, 1) := by decide +kernel
theorem dX12_readTown_91 : decode cX12_readTown 91 = .ok (.getfield 40, 3) := by decide +kernel
theorem dX12_readTown_94 : decode cX12_readTown 94 = .ok (.iconst 0, 1) := by decide +kernel
theorem dX12_readTown_95 : decode cX12_readTown 95 = .ok (.iconst 4, 1) := by decide +kernel
theorem dX12_readTown_96 : decode cX12_readTown 96 = .ok (.invokevirtual 232, 3) := by decide +kernel
theorem dX12_readTown_99 : decode cX12_readTown 99 = .ok (.goto 114, 3) := by decide +kernel
theorem dX12_readTown_102 : decode cX12_readTown 102 = .ok (.iload_n 3, 1) := by decide +kernel
theorem dX12_readTown_103 : decode cX12_readTown 103 = .ok (.bipush 112, 2) := by decide +kernel
theorem dX12_readTown_105 : decode cX12_readTown 105 = .ok (.if_icmp .ne 51, 3) := by decide +kernel
theorem dX12_readTown_108 : decode cX12_readTown 108 = .ok (.aload_n 0, 1) := by decide +kernel
theorem dX12_readTown_109 : decode cX12_readTown 109 = .ok (.getfield 226, 3) := by decide +kernel
theorem dX12_readTown_112 : decode cX12_readTown 112 = .ok (.bipush 6, 2) := by decide +kernel
theorem dX12_readTown_114 : decode cX12_readTown 114 = .ok (.if_icmp .ge 42, 3) := by decide +kernel
theorem dX12_readTown_117 : decode cX12_readTown 117 = .ok (.aload_n 0, 1) := by decide +kernel
theorem dX12_readTown_118 : decode cX12_readTown 118 = .ok (.dup, 1) := by decide +kernel
theorem dX12_readTown_119 : decode cX12_readTown 119 = .ok (.getfield 100, 3) := by decide +kernel
theorem dX12_readTown_122 : decode cX12_readTown 122 = .ok (.iconst 1, 1) := by decide +kernel
theorem dX12_readTown_123 : decode cX12_readTown 123 = .ok (.iadd, 1) := by decide +kernel
theorem dX12_readTown_124 : decode cX12_readTown 124 = .ok (.putfield 100, 3) := by decide +kernel
theorem dX12_readTown_127 : decode cX12_readTown 127 = .ok (.aload_n 0, 1) := by decide +kernel
theorem dX12_readTown_128 : decode cX12_readTown 128 = .ok (.iload_n 3, 1) := by decide +kernel
theorem dX12_readTown_129 : decode cX12_readTown 129 = .ok (.aload_n 0, 1) := by decide +kernel
theorem dX12_readTown_130 : decode cX12_readTown 130 = .ok (.getfield 43, 3) := by decide +kernel
theorem dX12_readTown_133 : decode cX12_readTown 133 = .ok (.iconst 4, 1) := by decide +kernel
theorem dX12_readTown_134 : decode cX12_readTown 134 = .ok (.aload_n 0, 1) := by decide +kernel
theorem dX12_readTown_135 : decode cX12_readTown 135 = .ok (.getfield 226, 3) := by decide +kernel
theorem dX12_readTown_138 : decode cX12_readTown 138 = .ok (.imul, 1) := by decide +kernel
theorem dX12_readTown_139 : decode cX12_readTown 139 = .ok (.iconst 4, 1) := by decide +kernel
theorem dX12_readTown_140 : decode cX12_readTown 140 = .ok (.invokevirtual 232, 3) := by decide +kernel
theorem dX12_readTown_143 : decode cX12_readTown 143 = .ok (.aload_n 0, 1) := by decide +kernel
theorem dX12_readTown_144 : decode cX12_readTown 144 = .ok (.dup, 1) := by decide +kernel
theorem dX12_readTown_145 : decode cX12_readTown 145 = .ok (.getfield 226, 3) := by decide +kernel
theorem dX12_readTown_148 : decode cX12_readTown 148 = .ok (.iconst 1, 1) := by decide +kernel
theorem dX12_readTown_149 : decode cX12_readTown 149 = .ok (.iadd, 1) := by decide +kernel
theorem dX12_readTown_150 : decode cX12_readTown 150 = .ok (.putfield 226, 3) := by decide +kernel
theorem dX12_readTown_153 : decode cX12_readTown 153 = .ok (.goto 60, 3) := by decide +kernel
theorem dX12_readTown_156 : decode cX12_readTown 156 = .ok (.iload_n 3, 1) := by decide +kernel
theorem dX12_readTown_157 : decode cX12_readTown 157 = .ok (.bipush 116, 2) := by decide +kernel
theorem dX12_readTown_159 : decode cX12_readTown 159 = .ok (.if_icmp .ne 50, 3) := by decide +kernel
theorem dX12_readTown_162 : decode cX12_readTown 162 = .ok (.aload_n 0, 1) := by decide +kernel
theorem dX12_readTown_163 : decode cX12_readTown 163 = .ok (.getfield 229, 3) := by decide +kernel
theorem dX12_readTown_166 : decode cX12_readTown 166 = .ok (.iconst 5, 1) := by decide +kernel
theorem dX12_readTown_167 : decode cX12_readTown 167 = .ok (.if_icmp .ge 42, 3) := by decide +kernel
theorem dX12_readTown_170 : decode cX12_readTown 170 = .ok (.aload_n 0, 1) := by decide +kernel
theorem dX12_readTown_171 : decode cX12_readTown 171 = .ok (.dup, 1) := by decide +kernel
theorem dX12_readTown_172 : decode cX12_readTown 172 = .ok (.getfield 100, 3) := by decide +kernel
theorem dX12_readTown_175 : decode cX12_readTown 175 = .ok (.iconst 1, 1) := by decide +kernel
theorem dX12_readTown_176 : decode cX12_readTown 176 = .ok (.iadd, 1) := by decide +kernel
theorem dX12_readTown_177 : decode cX12_readTown 177 = .ok (.putfield 100, 3) := by decide +kernel
theorem dX12_readTown_180 : decode cX12_readTown 180 = .ok (.aload_n 0, 1) := by decide +kernel
theorem dX12_readTown_181 : decode cX12_readTown 181 = .ok (.iload_n 3, 1) := by decide +kernel
theorem dX12_readTown_182 : decode cX12_readTown 182 = .ok (.aload_n 0, 1) := by decide +kernel
theorem dX12_readTown_183 : decode cX12_readTown 183 = .ok (.getfield 46, 3) := by decide +kernel
theorem dX12_readTown_186 : decode cX12_readTown 186 = .ok (.iconst 3, 1) := by decide +kernel
theorem dX12_readTown_187 : decode cX12_readTown 187 = .ok (.aload_n 0, 1) := by decide +kernel
theorem dX12_readTown_188 : decode cX12_readTown 188 = .ok (.getfield 229, 3) := by decide +kernel
theorem dX12_readTown_191 : decode cX12_readTown 191 = .ok (.imul, 1) := by decide +kernel
theorem dX12_readTown_192 : decode cX12_readTown 192 = .ok (.iconst 3, 1) := by decide +kernel
theorem dX12_readTown_193 : decode cX12_readTown 193 = .ok (.invokevirtual 232, 3) := by decide +kernel
theorem dX12_readTown_196 : decode cX12_readTown 196 = .ok (.aload_n 0, 1) := by decide +kernel
theorem dX12_readTown_197 : decode cX12_readTown 197 = .ok (.dup, 1) := by decide +kernel
theorem dX12_readTown_198 : decode cX12_readTown 198 = .ok (.getfield 229, 3) := by decide +kernel
theorem dX12_readTown_201 : decode cX12_readTown 201 = .ok (.iconst 1, 1) := by decide +kernel
theorem dX12_readTown_202 : decode cX12_readTown 202 = .ok (.iadd, 1) := by decide +kernel
theorem dX12_readTown_203 : decode cX12_readTown 203 = .ok (.putfield 229, 3) := by decide +kernel
theorem dX12_readTown_206 : decode cX12_readTown 206 = .ok (.goto 7, 3) := by decide +kernel
theorem dX12_readTown_209 : decode cX12_readTown 209 = .ok (.aload_n 0, 1) := by decide +kernel
theorem dX12_readTown_210 : decode cX12_readTown 210 = .ok (.invokevirtual 116, 3) := by decide +kernel
theorem dX12_readTown_213 : decode cX12_readTown 213 = .ok (.aload_n 0, 1) := by decide +kernel
theorem dX12_readTown_214 : decode cX12_readTown 214 = .ok (.getfield 107, 3) := by decide +kernel
theorem dX12_readTown_217 : decode cX12_readTown 217 = .ok (.iconst (-1), 1) := by decide +kernel
theorem dX12_readTown_218 : decode cX12_readTown 218 = .ok (.if_icmp .ne 16, 3) := by decide +kernel
theorem dX12_readTown_221 : decode cX12_readTown 221 = .ok (.aload_n 0, 1) := by decide +kernel
theorem dX12_readTown_222 : decode cX12_readTown 222 = .ok (.invokevirtual 119, 3) := by decide +kernel
theorem dX12_readTown_225 : decode cX12_readTown 225 = .ok (.bipush 59, 2) := by decide +kernel
theorem dX12_readTown_227 : decode cX12_readTown 227 = .ok (.if_icmp .ne 7, 3) := by decide +kernel
theorem dX12_readTown_230 : decode cX12_readTown 230 = .ok (.iconst 1, 1) := by decide +kernel
theorem dX12_readTown_231 : decode cX12_readTown 231 = .ok (.goto 4, 3) := by decide +kernel
theorem dX12_readTown_234 : decode cX12_readTown 234 = .ok (.iconst 0, 1) := by decide +kernel
theorem dX12_readTown_235 : decode cX12_readTown 235 = .ok (.istore_n 2, 1) := by decide +kernel
theorem dX12_readTown_236 : decode cX12_readTown 236 = .ok (.aload_n 0, 1) := by decide +kernel
theorem dX12_readTown_237 : decode cX12_readTown 237 = .ok (.dup, 1) := by decide +kernel
theorem dX12_readTown_238 : decode cX12_readTown 238 = .ok (.getfield 100, 3) := by decide +kernel
theorem dX12_readTown_241 : decode cX12_readTown 241 = .ok (.iload_n 2, 1) := by decide +kernel
theorem dX12_readTown_242 : decode cX12_readTown 242 = .ok (.ifCond .eq 7, 3) := by decide +kernel
theorem dX12_readTown_245 : decode cX12_readTown 245 = .ok (.iconst 1, 1) := by decide +kernel
theorem dX12_readTown_246 : decode cX12_readTown 246 = .ok (.goto 4, 3) := by decide +kernel
theorem dX12_readTown_249 : decode cX12_readTown 249 = .ok (.iconst 0, 1) := by decide +kernel
theorem dX12_readTown_250 : decode cX12_readTown 250 = .ok (.iadd, 1) := by decide +kernel
theorem dX12_readTown_251 : decode cX12_readTown 251 = .ok (.putfield 100, 3) := by decide +kernel
theorem dX12_readTown_254 : decode cX12_readTown 254 = .ok (.goto (-205), 3) := by decide +kernel
theorem dX12_readTown_257 : decode cX12_readTown 257 = .ok (.aload_n 0, 1) := by decide +kernel
theorem dX12_readTown_258 : decode cX12_readTown 258 = .ok (.getfield 107, 3) := by decide +kernel
theorem dX12_readTown_261 : decode cX12_readTown 261 = .ok (.iconst (-1), 1) := by decide +kernel
theorem dX12_readTown_262 : decode cX12_readTown 262 = .ok (.if_icmp .ne 23, 3) := by decide +kernel
theorem dX12_readTown_265 : decode cX12_readTown 265 = .ok (.aload_n 0, 1) := by decide +kernel
theorem dX12_readTown_266 : decode cX12_readTown 266 = .ok (.invokevirtual 119, 3) := by decide +kernel
theorem dX12_readTown_269 : decode cX12_readTown 269 = .ok (.iconst (-1), 1) := by decide +kernel
theorem dX12_readTown_270 : decode cX12_readTown 270 = .ok (.if_icmp .ne 11, 3) := by decide +kernel
theorem dX12_readTown_273 : decode cX12_readTown 273 = .ok (.aload_n 0, 1) := by decide +kernel
theorem dX12_readTown_274 : decode cX12_readTown 274 = .ok (.getfield 226, 3) := by decide +kernel
theorem dX12_readTown_277 : decode cX12_readTown 277 = .ok (.iconst 2, 1) := by decide +kernel
theorem dX12_readTown_278 : decode cX12_readTown 278 = .ok (.if_icmp .ge 7, 3) := by decide +kernel
theorem dX12_readTown_281 : decode cX12_readTown 281 = .ok (.aload_n 0, 1) := by decide +kernel
theorem dX12_readTown_282 : decode cX12_readTown 282 = .ok (.invokevirtual 116, 3) := by decide +kernel
theorem dX12_readTown_285 : decode cX12_readTown 285 = .ok (.aload_n 0, 1) := by decide +kernel
theorem dX12_readTown_286 : decode cX12_readTown 286 = .ok (.getfield 107, 3) := by decide +kernel
theorem dX12_readTown_289 : decode cX12_readTown 289 = .ok (.ireturn, 1) := by decide +kernel
set_option maxHeartbeats 4000000 in
set_option maxRecDepth 100000 in
theorem ctM_readTown (μ : Mm) {g : Nat → Int} {N τ : Nat} (h : PT g N τ μ) (hRG : RG μ) : CtE PM 4 yX12_readTown cX12_readTown 4 (some .int) [vR 0] μ (fun r m => Fr sT μ m ∧ RG m ∧ r = faultV (pTown g) ∧ ∀ q s, pTown g = (q, some s) → TM m s) := by
  refine ct_intro [some (vR 0), none, none, none] RX12 (by decide) rfl XM rfl (Nat.le_of_ble_eq_true rfl) (fun K hO => ?_)
  have hG := h.1
  have hN := hG.1
  have lp : ∀ (f a : Nat) (z : Int) (s : Tw) (m : Mm), N < sk g a + f → PQ g N τ m a → TM m s → RG m → z = (if s.1.1 = true then 1 else 0) → TwOk s → Fr sT μ m → pTs g f (sk g a) s = pTown g → AW K 49 [some (vR 0), some (vI z), some (vI 1), none] [] m := by
    intro f
    induction f with
    | zero =>
      intro a z s m hf hm
      have := sk_le hG hm.le
      omega
    | succ f ih =>
      intro a z s m hf hm hT hR hz hok hF e0
      have hpN := sk_le hG hm.le
      have hP : ∃ p, sk g a = p := ⟨_, rfl⟩
      obtain ⟨p, hp⟩ := hP
      rw [hp] at hpN hf e0
      have hrp := hG.rng p
      have hn6 := hok.2.1.1
      have hn5 := hok.2.2.1
      have tb : ∀ (q : Nat) (z2 : Int) (m2 : Mm), Fr sT μ m2 → RG m2 → BdL g N τ m2 q → pTown g = (q, none) → AW K 213 [some (vR 0), some (vI z2), none, none] [] m2 := by
        intro q z2 m2 hF2 hR2 hb hpt
        have hqN := hb.2.2
        refine aw_aload_n hO dX12_readTown_213 rfl rfl ?_
        refine gM_wrong hO dX12_readTown_214 rfl ?_
        refine aw_cg hb.2.1 ?_
        refine aw_iconst hO dX12_readTown_217 rfl ?_
        refine aw_icmp_ne (tgt := 234) hO dX12_readTown_218 rfl rfl (inRn (by omega)) (inRlit _) (fun c218 => ?_) (fun c218 => ?_)
        · refine aw_iconst hO dX12_readTown_234 rfl ?_
          refine aw_istore_n (ls' := [some (vR 0), some (vI z2), some (vI 0), none]) hO dX12_readTown_235 rfl (Nat.le_of_ble_eq_true rfl) rfl rfl ?_
          refine aw_aload_n hO dX12_readTown_236 rfl rfl ?_
          refine aw_dup hO dX12_readTown_237 rfl rfl ?_
          refine gM_at hO dX12_readTown_238 rfl ?_
          refine aw_iload_n hO dX12_readTown_241 rfl rfl ?_
          refine aw_if_eq (tgt := 249) hO dX12_readTown_242 rfl rfl (inRlit _) (fun c242 => ?_) (fun c242 => ?_)
          · refine aw_iconst hO dX12_readTown_249 rfl ?_
            refine aw_iadd hO dX12_readTown_250 rfl ?_
            refine pM_at hO dX12_readTown_251 rfl ?_
            refine aw_mm (fun μ1 e_μ1 => ?_)
            have hb_μ1 := hb.st e_μ1 (by decide)
            have hf_μ1 : Fr sT μ μ1 := by rw [e_μ1]; exact hF2.st (Or.inl ⟨rfl, by omega⟩) _
            have hg_μ1 : RG μ1 := hR2.w0 e_μ1
            refine aw_goto (tgt := 49) hO dX12_readTown_254 rfl ?_
            refine aw_iload_n hO dX12_readTown_49 rfl rfl ?_
            refine aw_if_eq (tgt := 257) hO dX12_readTown_50 rfl rfl (inRlit _) (fun c50 => ?_) (fun c50 => ?_)
            · refine aw_aload_n hO dX12_readTown_257 rfl rfl ?_
              refine gM_wrong hO dX12_readTown_258 rfl ?_
              refine aw_cg hb_μ1.2.1 ?_
              refine aw_iconst hO dX12_readTown_261 rfl ?_
              refine aw_icmp_ne (tgt := 285) hO dX12_readTown_262 rfl rfl (inRn (by omega)) (inRlit _) (fun c262 => ?_) (fun c262 => ?_)
              · refine aw_aload_n hO dX12_readTown_285 rfl rfl ?_
                refine gM_wrong hO dX12_readTown_286 rfl ?_
                refine aw_cg hb_μ1.2.1 ?_
                refine aw_iret hO dX12_readTown_289 ?_
                exact ⟨_, rfl, hf_μ1, hg_μ1, by rw [hpt]; rfl, fun q' s' e => by rw [hpt] at e; simp at e⟩
              · exact absurd c262 (by omega)
            · exact absurd c50 (by omega)
          · exact absurd c242 (by omega)
        · exact absurd c218 (by omega)
      have tg : ∀ (b q : Nat) (z2 : Int) (s2 : Tw) (m2 : Mm), sk g b = q → p < q → z2 = (if s2.1.1 = true then 1 else 0) → TwOk s2 → Fr sT μ m2 → RG m2 → PQ g N τ m2 b → TM m2 s2 → aftT g (fun p' => pTs g f p' s2) q s2 = pTown g → AW K 213 [some (vR 0), some (vI z2), none, none] [] m2 := by
        intro b q z2 s2 m2 hs hpq hz2 hok2 hF2 hR2 hm2 hT2 e1
        have hqN : q ≤ N := by rw [← hs]; exact sk_le hG hm2.le
        have hqq : sk g q = q := by rw [← hs, sk_sk hG]
        have hn26 := hok2.2.1.1
        refine aw_aload_n hO dX12_readTown_213 rfl rfl ?_
        refine gM_wrong hO dX12_readTown_214 rfl ?_
        refine aw_cg hm2.wr ?_
        refine aw_iconst hO dX12_readTown_217 rfl ?_
        refine aw_icmp_ne (tgt := 234) hO dX12_readTown_218 rfl rfl (inRlit _) (inRlit _) (fun c218 => ?_) (fun c218 => ?_)
        · exact absurd c218 (by omega)
        · refine aw_aload_n hO dX12_readTown_221 rfl rfl ?_
          refine aw_callVE (as := []) (st := []) hO dX12_readTown_222 rfl (lw_t6 140 rfl rfl) kX12_look (T := TX12) rfl (by decide) rfl (ctM_look m2 hm2.1 hm2.at hm2.le) (by decide) rfl rfl rfl (Nat.le_of_ble_eq_true rfl) (fun v2 μ3 hq4 => ?_)
          obtain ⟨e_v2, e_μ3⟩ := hq4
          subst e_v2
          have hp_μ3 := hm2.to (sk_le hm2.G hm2.le) e_μ3
          have hf_μ3 : Fr (sT) μ μ3 := by rw [e_μ3]; exact hF2.st (Or.inl ⟨rfl, by omega⟩) _
          have hr_μ3 := hm2.G.rng (sk g b)
          have hg_μ3 : RG μ3 := hR2.w0 e_μ3
          have ht_μ3 := hT2.w0 e_μ3 (by decide)
          rw [hs] at hp_μ3 hr_μ3 ⊢
          refine aw_bipush hO dX12_readTown_225 rfl (by decide) (by decide) ?_
          refine aw_icmp_ne (tgt := 234) hO dX12_readTown_227 rfl rfl ⟨by omega, by omega⟩ (inRlit _) (fun c227 => ?_) (fun c227 => ?_)
          · refine aw_iconst hO dX12_readTown_234 rfl ?_
            refine aw_istore_n (ls' := [some (vR 0), some (vI z2), some (vI 0), none]) hO dX12_readTown_235 rfl (Nat.le_of_ble_eq_true rfl) rfl rfl ?_
            refine aw_aload_n hO dX12_readTown_236 rfl rfl ?_
            refine aw_dup hO dX12_readTown_237 rfl rfl ?_
            refine gM_at hO dX12_readTown_238 rfl ?_
            refine aw_cg hp_μ3.at ?_
            refine aw_iload_n hO dX12_readTown_241 rfl rfl ?_
            refine aw_if_eq (tgt := 249) hO dX12_readTown_242 rfl rfl (inRlit _) (fun c242 => ?_) (fun c242 => ?_)
            · refine aw_iconst hO dX12_readTown_249 rfl ?_
              refine aw_iadd hO dX12_readTown_250 rfl ?_
              refine pM_at hO dX12_readTown_251 rfl ?_
              refine aw_mm (fun μ5 e_μ5 => ?_)
              have hp_μ5 := hp_μ3.to (b := q) (by omega) (show μ5 = mst μ3 0 3 ((q : Nat) : Int) by rw [e_μ5]; congr 1 <;> omega)
              have hf_μ5 : Fr sT μ μ5 := by rw [e_μ5]; exact hf_μ3.st (Or.inl ⟨rfl, by omega⟩) _
              have hg_μ5 : RG μ5 := hg_μ3.w0 e_μ5
              have ht_μ5 := ht_μ3.w0 e_μ5 (by decide)
              refine aw_goto (tgt := 49) hO dX12_readTown_254 rfl ?_
              refine aw_iload_n hO dX12_readTown_49 rfl rfl ?_
              refine aw_if_eq (tgt := 257) hO dX12_readTown_50 rfl rfl (inRlit _) (fun c50 => ?_) (fun c50 => ?_)
              · refine aw_aload_n hO dX12_readTown_257 rfl rfl ?_
                refine gM_wrong hO dX12_readTown_258 rfl ?_
                refine aw_cg hp_μ5.wr ?_
                refine aw_iconst hO dX12_readTown_261 rfl ?_
                refine aw_icmp_ne (tgt := 285) hO dX12_readTown_262 rfl rfl (inRlit _) (inRlit _) (fun c262 => ?_) (fun c262 => ?_)
                · exact absurd c262 (by omega)
                · refine aw_aload_n hO dX12_readTown_265 rfl rfl ?_
                  refine aw_callVE (as := []) (st := []) hO dX12_readTown_266 rfl (lw_t6 140 rfl rfl) kX12_look (T := TX12) rfl (by decide) rfl (ctM_look μ5 hp_μ5.1 hp_μ5.at hp_μ5.le) (by decide) rfl rfl rfl (Nat.le_of_ble_eq_true rfl) (fun v6 μ7 hq8 => ?_)
                  obtain ⟨e_v6, e_μ7⟩ := hq8
                  subst e_v6
                  have hp_μ7 := hp_μ5.to (sk_le hp_μ5.G hp_μ5.le) e_μ7
                  have hf_μ7 : Fr (sT) μ μ7 := by rw [e_μ7]; exact hf_μ5.st (Or.inl ⟨rfl, by omega⟩) _
                  have hr_μ7 := hp_μ5.G.rng (sk g q)
                  have hg_μ7 : RG μ7 := hg_μ5.w0 e_μ7
                  have ht_μ7 := ht_μ5.w0 e_μ7 (by decide)
                  rw [hqq] at hp_μ7 hr_μ7 ⊢
                  refine aw_iconst hO dX12_readTown_269 rfl ?_
                  refine aw_icmp_ne (tgt := 281) hO dX12_readTown_270 rfl rfl ⟨by omega, by omega⟩ (inRlit _) (fun c270 => ?_) (fun c270 => ?_)
                  · refine aw_aload_n hO dX12_readTown_281 rfl rfl ?_
                    refine aw_callVV (as := []) (st := []) hO dX12_readTown_282 rfl (lw_t6 168 rfl rfl) kX12_bad (T := TX12) rfl (by decide) rfl (ctM_bad μ7 hp_μ7.at hp_μ7.wr) (by decide) rfl rfl rfl (Nat.le_of_ble_eq_true rfl) (fun μ10 hq11 => ?_)
                    have hb_μ10 := hp_μ7.bad hq11
                    have hf_μ10 : Fr (sT) μ μ10 := by rw [hq11]; exact hf_μ7.st (Or.inl ⟨rfl, by omega⟩) _
                    have hg_μ10 : RG μ10 := hg_μ7.w0 hq11
                    have ht_μ10 := ht_μ7.w0 hq11 (by decide)
                    refine aw_aload_n hO dX12_readTown_285 rfl rfl ?_
                    refine gM_wrong hO dX12_readTown_286 rfl ?_
                    refine aw_cg hb_μ10.2.1 ?_
                    refine aw_iret hO dX12_readTown_289 ?_
                    have hpt : pTown g = (q, none) := by rw [← e1, aftT, if_neg c227, if_neg (fun h => c270 h.1)]
                    exact ⟨_, rfl, hf_μ10, hg_μ10, by rw [hpt]; rfl, fun q' s' e => by rw [hpt] at e; simp at e⟩
                  · refine aw_aload_n hO dX12_readTown_273 rfl rfl ?_
                    refine gM_readPersons hO dX12_readTown_274 rfl ?_
                    refine aw_cg ht_μ7.2.1.1 ?_
                    refine aw_iconst hO dX12_readTown_277 rfl ?_
                    refine aw_icmp_ge (tgt := 285) hO dX12_readTown_278 rfl rfl (inRn (by omega)) (inRlit _) (fun c278 => ?_) (fun c278 => ?_)
                    · refine aw_aload_n hO dX12_readTown_285 rfl rfl ?_
                      refine gM_wrong hO dX12_readTown_286 rfl ?_
                      refine aw_cg hp_μ7.wr ?_
                      refine aw_iret hO dX12_readTown_289 ?_
                      have hpt : pTown g = (q, some s2) := by rw [← e1, aftT, if_neg c227, if_pos ⟨c270, by omega⟩]
                      exact ⟨_, rfl, hf_μ7, hg_μ7, by rw [hpt]; rfl, fun q' s' e => by rw [hpt] at e; simp only [Prod.mk.injEq, Option.some.injEq] at e; rw [← e.2]; exact ht_μ7⟩
                    · refine aw_aload_n hO dX12_readTown_281 rfl rfl ?_
                      refine aw_callVV (as := []) (st := []) hO dX12_readTown_282 rfl (lw_t6 168 rfl rfl) kX12_bad (T := TX12) rfl (by decide) rfl (ctM_bad μ7 hp_μ7.at hp_μ7.wr) (by decide) rfl rfl rfl (Nat.le_of_ble_eq_true rfl) (fun μ13 hq14 => ?_)
                      have hb_μ13 := hp_μ7.bad hq14
                      have hf_μ13 : Fr (sT) μ μ13 := by rw [hq14]; exact hf_μ7.st (Or.inl ⟨rfl, by omega⟩) _
                      have hg_μ13 : RG μ13 := hg_μ7.w0 hq14
                      have ht_μ13 := ht_μ7.w0 hq14 (by decide)
                      refine aw_aload_n hO dX12_readTown_285 rfl rfl ?_
                      refine gM_wrong hO dX12_readTown_286 rfl ?_
                      refine aw_cg hb_μ13.2.1 ?_
                      refine aw_iret hO dX12_readTown_289 ?_
                      have hpt : pTown g = (q, none) := by rw [← e1, aftT, if_neg c227, if_neg (fun h => by have := h.2; omega)]
                      exact ⟨_, rfl, hf_μ13, hg_μ13, by rw [hpt]; rfl, fun q' s' e => by rw [hpt] at e; simp at e⟩
              · exact absurd c50 (by omega)
            · exact absurd c242 (by omega)
          · have hlt := hG.lt (p := q) (by omega)
            have hsg := sk_ge g (q + 1)
            refine aw_iconst hO dX12_readTown_230 rfl ?_
            refine aw_goto (tgt := 235) hO dX12_readTown_231 rfl ?_
            refine aw_istore_n (ls' := [some (vR 0), some (vI z2), some (vI 1), none]) hO dX12_readTown_235 rfl (Nat.le_of_ble_eq_true rfl) rfl rfl ?_
            refine aw_aload_n hO dX12_readTown_236 rfl rfl ?_
            refine aw_dup hO dX12_readTown_237 rfl rfl ?_
            refine gM_at hO dX12_readTown_238 rfl ?_
            refine aw_cg hp_μ3.at ?_
            refine aw_iload_n hO dX12_readTown_241 rfl rfl ?_
            refine aw_if_eq (tgt := 249) hO dX12_readTown_242 rfl rfl (inRlit _) (fun c242 => ?_) (fun c242 => ?_)
            · exact absurd c242 (by omega)
            · refine aw_iconst hO dX12_readTown_245 rfl ?_
              refine aw_goto (tgt := 250) hO dX12_readTown_246 rfl ?_
              refine aw_iadd hO dX12_readTown_250 rfl ?_
              refine pM_at hO dX12_readTown_251 rfl ?_
              refine aw_mm (fun μ15 e_μ15 => ?_)
              have hp_μ15 := hp_μ3.to (b := (q + 1)) (by omega) (show μ15 = mst μ3 0 3 (((q + 1) : Nat) : Int) by rw [e_μ15]; congr 1 <;> omega)
              have hf_μ15 : Fr sT μ μ15 := by rw [e_μ15]; exact hf_μ3.st (Or.inl ⟨rfl, by omega⟩) _
              have hg_μ15 : RG μ15 := hg_μ3.w0 e_μ15
              have ht_μ15 := ht_μ3.w0 e_μ15 (by decide)
              refine aw_goto (tgt := 49) hO dX12_readTown_254 rfl ?_
              refine aw_fg (ls' := [some (vR 0), some (vI z2), some (vI 1), none]) ⟨rfl, rfl, rfl, trivial⟩ ?_
              exact ih (q + 1) z2 s2 μ15 (by omega) hp_μ15 ht_μ15 hg_μ15 hz2 hok2 hf_μ15 (by rw [← e1, aftT, if_pos c227])
      refine aw_iload_n hO dX12_readTown_49 rfl rfl ?_
      refine aw_if_eq (tgt := 257) hO dX12_readTown_50 rfl rfl (inRlit _) (fun c50 => ?_) (fun c50 => ?_)
      · exact absurd c50 (by omega)
      · refine aw_aload_n hO dX12_readTown_53 rfl rfl ?_
        refine gM_wrong hO dX12_readTown_54 rfl ?_
        refine aw_cg hm.wr ?_
        refine aw_iconst hO dX12_readTown_57 rfl ?_
        refine aw_icmp_ne (tgt := 257) hO dX12_readTown_58 rfl rfl (inRlit _) (inRlit _) (fun c58 => ?_) (fun c58 => ?_)
        · exact absurd c58 (by omega)
        · refine aw_aload_n hO dX12_readTown_61 rfl rfl ?_
          refine aw_callVE (as := []) (st := []) hO dX12_readTown_62 rfl (lw_t6 140 rfl rfl) kX12_look (T := TX12) rfl (by decide) rfl (ctM_look m hm.1 hm.at hm.le) (by decide) rfl rfl rfl (Nat.le_of_ble_eq_true rfl) (fun v16 μ17 hq18 => ?_)
          obtain ⟨e_v16, e_μ17⟩ := hq18
          subst e_v16
          have hp_μ17 := hm.to (sk_le hm.G hm.le) e_μ17
          have hf_μ17 : Fr (sT) μ μ17 := by rw [e_μ17]; exact hF.st (Or.inl ⟨rfl, by omega⟩) _
          have hr_μ17 := hm.G.rng (sk g a)
          have hg_μ17 : RG μ17 := hR.w0 e_μ17
          have ht_μ17 := hT.w0 e_μ17 (by decide)
          rw [hp] at hp_μ17 hr_μ17 ⊢
          refine aw_istore_n (ls' := [some (vR 0), some (vI z), some (vI 1), some (vI (g p))]) hO dX12_readTown_65 rfl (Nat.le_of_ble_eq_true rfl) rfl rfl ?_
          refine aw_iload_n hO dX12_readTown_66 rfl rfl ?_
          refine aw_bipush hO dX12_readTown_67 rfl (by decide) (by decide) ?_
          refine aw_icmp_ne (tgt := 102) hO dX12_readTown_69 rfl rfl ⟨by omega, by omega⟩ (inRlit _) (fun c69 => ?_) (fun c69 => ?_)
          · refine aw_iload_n hO dX12_readTown_102 rfl rfl ?_
            refine aw_bipush hO dX12_readTown_103 rfl (by decide) (by decide) ?_
            refine aw_icmp_ne (tgt := 156) hO dX12_readTown_105 rfl rfl ⟨by omega, by omega⟩ (inRlit _) (fun c105 => ?_) (fun c105 => ?_)
            · refine aw_iload_n hO dX12_readTown_156 rfl rfl ?_
              refine aw_bipush hO dX12_readTown_157 rfl (by decide) (by decide) ?_
              refine aw_icmp_ne (tgt := 209) hO dX12_readTown_159 rfl rfl ⟨by omega, by omega⟩ (inRlit _) (fun c159 => ?_) (fun c159 => ?_)
              · refine aw_aload_n hO dX12_readTown_209 rfl rfl ?_
                refine aw_callVV (as := []) (st := []) hO dX12_readTown_210 rfl (lw_t6 168 rfl rfl) kX12_bad (T := TX12) rfl (by decide) rfl (ctM_bad μ17 hp_μ17.at hp_μ17.wr) (by decide) rfl rfl rfl (Nat.le_of_ble_eq_true rfl) (fun μ20 hq21 => ?_)
                have hb_μ20 := hp_μ17.bad hq21
                have hf_μ20 : Fr (sT) μ μ20 := by rw [hq21]; exact hf_μ17.st (Or.inl ⟨rfl, by omega⟩) _
                have hg_μ20 : RG μ20 := hg_μ17.w0 hq21
                have ht_μ20 := ht_μ17.w0 hq21 (by decide)
                refine aw_fg (ls' := [some (vR 0), some (vI z), none, none]) ⟨rfl, rfl, trivial⟩ ?_
                exact tb p z μ20 hf_μ20 hg_μ20 hb_μ20 (by rw [← e0]; exact pTs_b (pTc_n (fun h => c69 h.1) (fun h => c105 h.1) (fun h => c159 h.1)))
              · have hlt := hG.lt (p := p) (by omega)
                refine aw_aload_n hO dX12_readTown_162 rfl rfl ?_
                refine gM_readTroubles hO dX12_readTown_163 rfl ?_
                refine aw_cg ht_μ17.2.1.2 ?_
                refine aw_iconst hO dX12_readTown_166 rfl ?_
                refine aw_icmp_ge (tgt := 209) hO dX12_readTown_167 rfl rfl (inRn (by omega)) (inRlit _) (fun c167 => ?_) (fun c167 => ?_)
                · refine aw_aload_n hO dX12_readTown_209 rfl rfl ?_
                  refine aw_callVV (as := []) (st := []) hO dX12_readTown_210 rfl (lw_t6 168 rfl rfl) kX12_bad (T := TX12) rfl (by decide) rfl (ctM_bad μ17 hp_μ17.at hp_μ17.wr) (by decide) rfl rfl rfl (Nat.le_of_ble_eq_true rfl) (fun μ23 hq24 => ?_)
                  have hb_μ23 := hp_μ17.bad hq24
                  have hf_μ23 : Fr (sT) μ μ23 := by rw [hq24]; exact hf_μ17.st (Or.inl ⟨rfl, by omega⟩) _
                  have hg_μ23 : RG μ23 := hg_μ17.w0 hq24
                  have ht_μ23 := ht_μ17.w0 hq24 (by decide)
                  refine aw_fg (ls' := [some (vR 0), some (vI z), none, none]) ⟨rfl, rfl, trivial⟩ ?_
                  exact tb p z μ23 hf_μ23 hg_μ23 hb_μ23 (by rw [← e0]; exact pTs_b (pTc_n (fun h => c69 h.1) (fun h => c105 h.1) (fun h => by have := h.2; omega)))
                · refine aw_aload_n hO dX12_readTown_170 rfl rfl ?_
                  refine aw_dup hO dX12_readTown_171 rfl rfl ?_
                  refine gM_at hO dX12_readTown_172 rfl ?_
                  refine aw_cg hp_μ17.at ?_
                  refine aw_iconst hO dX12_readTown_175 rfl ?_
                  refine aw_iadd hO dX12_readTown_176 rfl ?_
                  refine pM_at hO dX12_readTown_177 rfl ?_
                  refine aw_mm (fun μ25 e_μ25 => ?_)
                  have hp_μ25 := hp_μ17.to (b := (p + 1)) (by omega) (show μ25 = mst μ17 0 3 (((p + 1) : Nat) : Int) by rw [e_μ25]; congr 1 <;> omega)
                  have hf_μ25 : Fr (sT) μ μ25 := by rw [e_μ25]; exact hf_μ17.st (Or.inl ⟨rfl, by omega⟩) _
                  have hg_μ25 : RG μ25 := hg_μ17.w0 e_μ25
                  have ht_μ25 := ht_μ17.w0 e_μ25 (by decide)
                  refine aw_aload_n hO dX12_readTown_180 rfl rfl ?_
                  refine aw_iload_n hO dX12_readTown_181 rfl rfl ?_
                  refine aw_aload_n hO dX12_readTown_182 rfl rfl ?_
                  refine gM_readTrouble hO dX12_readTown_183 rfl ?_
                  refine aw_iconst hO dX12_readTown_186 rfl ?_
                  refine aw_aload_n hO dX12_readTown_187 rfl rfl ?_
                  refine gM_readTroubles hO dX12_readTown_188 rfl ?_
                  refine aw_cg ht_μ25.2.1.2 ?_
                  refine aw_imul hO dX12_readTown_191 rfl ?_
                  refine aw_iconst hO dX12_readTown_192 rfl ?_
                  refine aw_stq (st' := [vI 3, vI (((3 * s.2.2.1) : Nat) : Int), vR 13, vI 116, vR 0]) (by rw [c159]; rfl) ?_
                  have hsg1 := sk_ge g (p + 1)
                  refine aw_callVV (as := [vI 116, vR 13, vI (((3 * s.2.2.1) : Nat) : Int), vI 3]) (st := []) hO dX12_readTown_193 rfl (lw_t6 148 rfl rfl) kX12_items (T := TX12) rfl (by decide) rfl (ctM_items_116 μ25 (i := s.2.2.1) (by omega) hp_μ25) (by decide) rfl rfl rfl (Nat.le_of_ble_eq_true rfl) (fun μ27 hq28 => ?_)
                  obtain ⟨hf0_μ27, hrr_μ27, hb0_μ27, hg0_μ27⟩ := hq28
                  have hf_μ27 : Fr sT μ μ27 := hf_μ25.tr (hf0_μ27.mono fun _ _ => sI_T (by decide))
                  have hg_μ27 : RG μ27 := hg_μ25.it hf0_μ27 (Or.inl (by decide)) (by decide)
                  rcases hx : pIt g 116 4 (sk g (p + 1)) (usR 116) 0 with ⟨q, _ | r⟩
                  · have hb_μ27 := hb0_μ27 q hx
                    have hTc := pTc_tb (s := s) c159 (by omega) hx
                    refine aw_aload_n hO dX12_readTown_196 rfl rfl ?_
                    refine aw_dup hO dX12_readTown_197 rfl rfl ?_
                    refine gM_readTroubles hO dX12_readTown_198 rfl ?_
                    refine aw_cg ((hf0_μ27.1 0 21 (by unfold sI; omega)).trans ht_μ25.2.1.2) ?_
                    refine aw_iconst hO dX12_readTown_201 rfl ?_
                    refine aw_iadd hO dX12_readTown_202 rfl ?_
                    refine pM_readTroubles hO dX12_readTown_203 rfl ?_
                    refine aw_mm (fun μ29 e_μ29 => ?_)
                    have hf_μ29 : Fr sT μ μ29 := by rw [e_μ29]; exact hf_μ27.st (Or.inl ⟨rfl, by omega⟩) _
                    have hg_μ29 : RG μ29 := hg_μ27.w0 e_μ29
                    have hb_μ29 := hb_μ27.st e_μ29 (by decide)
                    refine aw_goto (tgt := 213) hO dX12_readTown_206 rfl ?_
                    refine aw_fg (ls' := [some (vR 0), some (vI z), none, none]) ⟨rfl, rfl, trivial⟩ ?_
                    exact tb q z μ29 hf_μ29 hg_μ29 hb_μ29 (by rw [← e0]; exact pTs_b hTc)
                  · obtain ⟨⟨b, hs2, hp_μ27⟩, hrow⟩ := hg0_μ27 q r hx
                    have hTc := pTc_tg (s := s) c159 (by omega) hx
                    obtain ⟨z1, z2, z3, z4⟩ := (pTc_G hG hpN hok).2 q _ hTc
                    refine aw_aload_n hO dX12_readTown_196 rfl rfl ?_
                    refine aw_dup hO dX12_readTown_197 rfl rfl ?_
                    refine gM_readTroubles hO dX12_readTown_198 rfl ?_
                    refine aw_cg ((hf0_μ27.1 0 21 (by unfold sI; omega)).trans ht_μ25.2.1.2) ?_
                    refine aw_iconst hO dX12_readTown_201 rfl ?_
                    refine aw_iadd hO dX12_readTown_202 rfl ?_
                    refine pM_readTroubles hO dX12_readTown_203 rfl ?_
                    refine aw_mm (fun μ30 e_μ30 => ?_)
                    have hf_μ30 : Fr sT μ μ30 := by rw [e_μ30]; exact hf_μ27.st (Or.inl ⟨rfl, by omega⟩) _
                    have hg_μ30 : RG μ30 := hg_μ27.w0 e_μ30
                    have hp_μ30 := hp_μ27.st e_μ30 (by decide)
                    have hTn := ht_μ25.t hf0_μ27 hrow e_μ30
                    refine aw_goto (tgt := 213) hO dX12_readTown_206 rfl ?_
                    refine aw_fg (ls' := [some (vR 0), some (vI z), none, none]) ⟨rfl, rfl, trivial⟩ ?_
                    exact tg b q z (s.1, s.2.1, (s.2.2.1 + 1, fuR s.2.2.2 s.2.2.1 r)) μ30 hs2 z1 hz z4 hf_μ30 hg_μ30 hp_μ30 hTn (by rw [← e0]; exact (pTs_g hTc).symm)
            · have hlt := hG.lt (p := p) (by omega)
              refine aw_aload_n hO dX12_readTown_108 rfl rfl ?_
              refine gM_readPersons hO dX12_readTown_109 rfl ?_
              refine aw_cg ht_μ17.2.1.1 ?_
              refine aw_bipush hO dX12_readTown_112 rfl (by decide) (by decide) ?_
              refine aw_icmp_ge (tgt := 156) hO dX12_readTown_114 rfl rfl (inRn (by omega)) (inRlit _) (fun c114 => ?_) (fun c114 => ?_)
              · refine aw_iload_n hO dX12_readTown_156 rfl rfl ?_
                refine aw_bipush hO dX12_readTown_157 rfl (by decide) (by decide) ?_
                refine aw_icmp_ne (tgt := 209) hO dX12_readTown_159 rfl rfl ⟨by omega, by omega⟩ (inRlit _) (fun c159 => ?_) (fun c159 => ?_)
                · refine aw_aload_n hO dX12_readTown_209 rfl rfl ?_
                  refine aw_callVV (as := []) (st := []) hO dX12_readTown_210 rfl (lw_t6 168 rfl rfl) kX12_bad (T := TX12) rfl (by decide) rfl (ctM_bad μ17 hp_μ17.at hp_μ17.wr) (by decide) rfl rfl rfl (Nat.le_of_ble_eq_true rfl) (fun μ32 hq33 => ?_)
                  have hb_μ32 := hp_μ17.bad hq33
                  have hf_μ32 : Fr (sT) μ μ32 := by rw [hq33]; exact hf_μ17.st (Or.inl ⟨rfl, by omega⟩) _
                  have hg_μ32 : RG μ32 := hg_μ17.w0 hq33
                  have ht_μ32 := ht_μ17.w0 hq33 (by decide)
                  refine aw_fg (ls' := [some (vR 0), some (vI z), none, none]) ⟨rfl, rfl, trivial⟩ ?_
                  exact tb p z μ32 hf_μ32 hg_μ32 hb_μ32 (by rw [← e0]; exact pTs_b (pTc_n (fun h => c69 h.1) (fun h => by have := h.2; omega) (fun h => c159 h.1)))
                · have hlt := hG.lt (p := p) (by omega)
                  refine aw_aload_n hO dX12_readTown_162 rfl rfl ?_
                  refine gM_readTroubles hO dX12_readTown_163 rfl ?_
                  refine aw_cg ht_μ17.2.1.2 ?_
                  refine aw_iconst hO dX12_readTown_166 rfl ?_
                  refine aw_icmp_ge (tgt := 209) hO dX12_readTown_167 rfl rfl (inRn (by omega)) (inRlit _) (fun c167 => ?_) (fun c167 => ?_)
                  · refine aw_aload_n hO dX12_readTown_209 rfl rfl ?_
                    refine aw_callVV (as := []) (st := []) hO dX12_readTown_210 rfl (lw_t6 168 rfl rfl) kX12_bad (T := TX12) rfl (by decide) rfl (ctM_bad μ17 hp_μ17.at hp_μ17.wr) (by decide) rfl rfl rfl (Nat.le_of_ble_eq_true rfl) (fun μ35 hq36 => ?_)
                    have hb_μ35 := hp_μ17.bad hq36
                    have hf_μ35 : Fr (sT) μ μ35 := by rw [hq36]; exact hf_μ17.st (Or.inl ⟨rfl, by omega⟩) _
                    have hg_μ35 : RG μ35 := hg_μ17.w0 hq36
                    have ht_μ35 := ht_μ17.w0 hq36 (by decide)
                    refine aw_fg (ls' := [some (vR 0), some (vI z), none, none]) ⟨rfl, rfl, trivial⟩ ?_
                    exact tb p z μ35 hf_μ35 hg_μ35 hb_μ35 (by rw [← e0]; exact pTs_b (pTc_n (fun h => c69 h.1) (fun h => by have := h.2; omega) (fun h => by have := h.2; omega)))
                  · refine aw_aload_n hO dX12_readTown_170 rfl rfl ?_
                    refine aw_dup hO dX12_readTown_171 rfl rfl ?_
                    refine gM_at hO dX12_readTown_172 rfl ?_
                    refine aw_cg hp_μ17.at ?_
                    refine aw_iconst hO dX12_readTown_175 rfl ?_
                    refine aw_iadd hO dX12_readTown_176 rfl ?_
                    refine pM_at hO dX12_readTown_177 rfl ?_
                    refine aw_mm (fun μ37 e_μ37 => ?_)
                    have hp_μ37 := hp_μ17.to (b := (p + 1)) (by omega) (show μ37 = mst μ17 0 3 (((p + 1) : Nat) : Int) by rw [e_μ37]; congr 1 <;> omega)
                    have hf_μ37 : Fr (sT) μ μ37 := by rw [e_μ37]; exact hf_μ17.st (Or.inl ⟨rfl, by omega⟩) _
                    have hg_μ37 : RG μ37 := hg_μ17.w0 e_μ37
                    have ht_μ37 := ht_μ17.w0 e_μ37 (by decide)
                    refine aw_aload_n hO dX12_readTown_180 rfl rfl ?_
                    refine aw_iload_n hO dX12_readTown_181 rfl rfl ?_
                    refine aw_aload_n hO dX12_readTown_182 rfl rfl ?_
                    refine gM_readTrouble hO dX12_readTown_183 rfl ?_
                    refine aw_iconst hO dX12_readTown_186 rfl ?_
                    refine aw_aload_n hO dX12_readTown_187 rfl rfl ?_
                    refine gM_readTroubles hO dX12_readTown_188 rfl ?_
                    refine aw_cg ht_μ37.2.1.2 ?_
                    refine aw_imul hO dX12_readTown_191 rfl ?_
                    refine aw_iconst hO dX12_readTown_192 rfl ?_
                    refine aw_stq (st' := [vI 3, vI (((3 * s.2.2.1) : Nat) : Int), vR 13, vI 116, vR 0]) (by rw [c159]; rfl) ?_
                    have hsg1 := sk_ge g (p + 1)
                    refine aw_callVV (as := [vI 116, vR 13, vI (((3 * s.2.2.1) : Nat) : Int), vI 3]) (st := []) hO dX12_readTown_193 rfl (lw_t6 148 rfl rfl) kX12_items (T := TX12) rfl (by decide) rfl (ctM_items_116 μ37 (i := s.2.2.1) (by omega) hp_μ37) (by decide) rfl rfl rfl (Nat.le_of_ble_eq_true rfl) (fun μ39 hq40 => ?_)
                    obtain ⟨hf0_μ39, hrr_μ39, hb0_μ39, hg0_μ39⟩ := hq40
                    have hf_μ39 : Fr sT μ μ39 := hf_μ37.tr (hf0_μ39.mono fun _ _ => sI_T (by decide))
                    have hg_μ39 : RG μ39 := hg_μ37.it hf0_μ39 (Or.inl (by decide)) (by decide)
                    rcases hx : pIt g 116 4 (sk g (p + 1)) (usR 116) 0 with ⟨q, _ | r⟩
                    · have hb_μ39 := hb0_μ39 q hx
                      have hTc := pTc_tb (s := s) c159 (by omega) hx
                      refine aw_aload_n hO dX12_readTown_196 rfl rfl ?_
                      refine aw_dup hO dX12_readTown_197 rfl rfl ?_
                      refine gM_readTroubles hO dX12_readTown_198 rfl ?_
                      refine aw_cg ((hf0_μ39.1 0 21 (by unfold sI; omega)).trans ht_μ37.2.1.2) ?_
                      refine aw_iconst hO dX12_readTown_201 rfl ?_
                      refine aw_iadd hO dX12_readTown_202 rfl ?_
                      refine pM_readTroubles hO dX12_readTown_203 rfl ?_
                      refine aw_mm (fun μ41 e_μ41 => ?_)
                      have hf_μ41 : Fr sT μ μ41 := by rw [e_μ41]; exact hf_μ39.st (Or.inl ⟨rfl, by omega⟩) _
                      have hg_μ41 : RG μ41 := hg_μ39.w0 e_μ41
                      have hb_μ41 := hb_μ39.st e_μ41 (by decide)
                      refine aw_goto (tgt := 213) hO dX12_readTown_206 rfl ?_
                      refine aw_fg (ls' := [some (vR 0), some (vI z), none, none]) ⟨rfl, rfl, trivial⟩ ?_
                      exact tb q z μ41 hf_μ41 hg_μ41 hb_μ41 (by rw [← e0]; exact pTs_b hTc)
                    · obtain ⟨⟨b, hs2, hp_μ39⟩, hrow⟩ := hg0_μ39 q r hx
                      have hTc := pTc_tg (s := s) c159 (by omega) hx
                      obtain ⟨z1, z2, z3, z4⟩ := (pTc_G hG hpN hok).2 q _ hTc
                      refine aw_aload_n hO dX12_readTown_196 rfl rfl ?_
                      refine aw_dup hO dX12_readTown_197 rfl rfl ?_
                      refine gM_readTroubles hO dX12_readTown_198 rfl ?_
                      refine aw_cg ((hf0_μ39.1 0 21 (by unfold sI; omega)).trans ht_μ37.2.1.2) ?_
                      refine aw_iconst hO dX12_readTown_201 rfl ?_
                      refine aw_iadd hO dX12_readTown_202 rfl ?_
                      refine pM_readTroubles hO dX12_readTown_203 rfl ?_
                      refine aw_mm (fun μ42 e_μ42 => ?_)
                      have hf_μ42 : Fr sT μ μ42 := by rw [e_μ42]; exact hf_μ39.st (Or.inl ⟨rfl, by omega⟩) _
                      have hg_μ42 : RG μ42 := hg_μ39.w0 e_μ42
                      have hp_μ42 := hp_μ39.st e_μ42 (by decide)
                      have hTn := ht_μ37.t hf0_μ39 hrow e_μ42
                      refine aw_goto (tgt := 213) hO dX12_readTown_206 rfl ?_
                      refine aw_fg (ls' := [some (vR 0), some (vI z), none, none]) ⟨rfl, rfl, trivial⟩ ?_
                      exact tg b q z (s.1, s.2.1, (s.2.2.1 + 1, fuR s.2.2.2 s.2.2.1 r)) μ42 hs2 z1 hz z4 hf_μ42 hg_μ42 hp_μ42 hTn (by rw [← e0]; exact (pTs_g hTc).symm)
              · refine aw_aload_n hO dX12_readTown_117 rfl rfl ?_
                refine aw_dup hO dX12_readTown_118 rfl rfl ?_
                refine gM_at hO dX12_readTown_119 rfl ?_
                refine aw_cg hp_μ17.at ?_
                refine aw_iconst hO dX12_readTown_122 rfl ?_
                refine aw_iadd hO dX12_readTown_123 rfl ?_
                refine pM_at hO dX12_readTown_124 rfl ?_
                refine aw_mm (fun μ43 e_μ43 => ?_)
                have hp_μ43 := hp_μ17.to (b := (p + 1)) (by omega) (show μ43 = mst μ17 0 3 (((p + 1) : Nat) : Int) by rw [e_μ43]; congr 1 <;> omega)
                have hf_μ43 : Fr (sT) μ μ43 := by rw [e_μ43]; exact hf_μ17.st (Or.inl ⟨rfl, by omega⟩) _
                have hg_μ43 : RG μ43 := hg_μ17.w0 e_μ43
                have ht_μ43 := ht_μ17.w0 e_μ43 (by decide)
                refine aw_aload_n hO dX12_readTown_127 rfl rfl ?_
                refine aw_iload_n hO dX12_readTown_128 rfl rfl ?_
                refine aw_aload_n hO dX12_readTown_129 rfl rfl ?_
                refine gM_readPerson hO dX12_readTown_130 rfl ?_
                refine aw_iconst hO dX12_readTown_133 rfl ?_
                refine aw_aload_n hO dX12_readTown_134 rfl rfl ?_
                refine gM_readPersons hO dX12_readTown_135 rfl ?_
                refine aw_cg ht_μ43.2.1.1 ?_
                refine aw_imul hO dX12_readTown_138 rfl ?_
                refine aw_iconst hO dX12_readTown_139 rfl ?_
                refine aw_stq (st' := [vI 4, vI (((4 * s.2.1.1) : Nat) : Int), vR 12, vI 112, vR 0]) (by rw [c105]; rfl) ?_
                have hsg1 := sk_ge g (p + 1)
                refine aw_callVV (as := [vI 112, vR 12, vI (((4 * s.2.1.1) : Nat) : Int), vI 4]) (st := []) hO dX12_readTown_140 rfl (lw_t6 148 rfl rfl) kX12_items (T := TX12) rfl (by decide) rfl (ctM_items_112 μ43 (i := s.2.1.1) (by omega) hp_μ43) (by decide) rfl rfl rfl (Nat.le_of_ble_eq_true rfl) (fun μ45 hq46 => ?_)
                obtain ⟨hf0_μ45, hrr_μ45, hb0_μ45, hg0_μ45⟩ := hq46
                have hf_μ45 : Fr sT μ μ45 := hf_μ43.tr (hf0_μ45.mono fun _ _ => sI_T (by decide))
                have hg_μ45 : RG μ45 := hg_μ43.it hf0_μ45 (Or.inr ⟨rfl, hrr_μ45⟩) (by decide)
                rcases hx : pIt g 112 4 (sk g (p + 1)) (usR 112) 0 with ⟨q, _ | r⟩
                · have hb_μ45 := hb0_μ45 q hx
                  have hTc := pTc_pb (s := s) c105 (by omega) hx
                  refine aw_aload_n hO dX12_readTown_143 rfl rfl ?_
                  refine aw_dup hO dX12_readTown_144 rfl rfl ?_
                  refine gM_readPersons hO dX12_readTown_145 rfl ?_
                  refine aw_cg ((hf0_μ45.1 0 20 (by unfold sI; omega)).trans ht_μ43.2.1.1) ?_
                  refine aw_iconst hO dX12_readTown_148 rfl ?_
                  refine aw_iadd hO dX12_readTown_149 rfl ?_
                  refine pM_readPersons hO dX12_readTown_150 rfl ?_
                  refine aw_mm (fun μ47 e_μ47 => ?_)
                  have hf_μ47 : Fr sT μ μ47 := by rw [e_μ47]; exact hf_μ45.st (Or.inl ⟨rfl, by omega⟩) _
                  have hg_μ47 : RG μ47 := hg_μ45.w0 e_μ47
                  have hb_μ47 := hb_μ45.st e_μ47 (by decide)
                  refine aw_goto (tgt := 213) hO dX12_readTown_153 rfl ?_
                  refine aw_fg (ls' := [some (vR 0), some (vI z), none, none]) ⟨rfl, rfl, trivial⟩ ?_
                  exact tb q z μ47 hf_μ47 hg_μ47 hb_μ47 (by rw [← e0]; exact pTs_b hTc)
                · obtain ⟨⟨b, hs2, hp_μ45⟩, hrow⟩ := hg0_μ45 q r hx
                  have hTc := pTc_pg (s := s) c105 (by omega) hx
                  obtain ⟨z1, z2, z3, z4⟩ := (pTc_G hG hpN hok).2 q _ hTc
                  refine aw_aload_n hO dX12_readTown_143 rfl rfl ?_
                  refine aw_dup hO dX12_readTown_144 rfl rfl ?_
                  refine gM_readPersons hO dX12_readTown_145 rfl ?_
                  refine aw_cg ((hf0_μ45.1 0 20 (by unfold sI; omega)).trans ht_μ43.2.1.1) ?_
                  refine aw_iconst hO dX12_readTown_148 rfl ?_
                  refine aw_iadd hO dX12_readTown_149 rfl ?_
                  refine pM_readPersons hO dX12_readTown_150 rfl ?_
                  refine aw_mm (fun μ48 e_μ48 => ?_)
                  have hf_μ48 : Fr sT μ μ48 := by rw [e_μ48]; exact hf_μ45.st (Or.inl ⟨rfl, by omega⟩) _
                  have hg_μ48 : RG μ48 := hg_μ45.w0 e_μ48
                  have hp_μ48 := hp_μ45.st e_μ48 (by decide)
                  have hTn := ht_μ43.p hf0_μ45 hrow e_μ48
                  refine aw_goto (tgt := 213) hO dX12_readTown_153 rfl ?_
                  refine aw_fg (ls' := [some (vR 0), some (vI z), none, none]) ⟨rfl, rfl, trivial⟩ ?_
                  exact tg b q z (s.1, (s.2.1.1 + 1, fuR s.2.1.2 s.2.1.1 r), s.2.2) μ48 hs2 z1 hz z4 hf_μ48 hg_μ48 hp_μ48 hTn (by rw [← e0]; exact (pTs_g hTc).symm)
          · have hlt := hG.lt (p := p) (by omega)
            refine aw_iload_n hO dX12_readTown_72 rfl rfl ?_
            refine aw_if_ne (tgt := 102) hO dX12_readTown_73 rfl rfl ⟨by rw [hz]; split <;> omega, by rw [hz]; split <;> omega⟩ (fun c73 => ?_) (fun c73 => ?_)
            · have hzt : ¬ s.1.1 = false := by
                intro hh
                rw [hh] at hz
                exact c73 hz
              refine aw_iload_n hO dX12_readTown_102 rfl rfl ?_
              refine aw_bipush hO dX12_readTown_103 rfl (by decide) (by decide) ?_
              refine aw_icmp_ne (tgt := 156) hO dX12_readTown_105 rfl rfl ⟨by omega, by omega⟩ (inRlit _) (fun c105 => ?_) (fun c105 => ?_)
              · refine aw_iload_n hO dX12_readTown_156 rfl rfl ?_
                refine aw_bipush hO dX12_readTown_157 rfl (by decide) (by decide) ?_
                refine aw_icmp_ne (tgt := 209) hO dX12_readTown_159 rfl rfl ⟨by omega, by omega⟩ (inRlit _) (fun c159 => ?_) (fun c159 => ?_)
                · refine aw_aload_n hO dX12_readTown_209 rfl rfl ?_
                  refine aw_callVV (as := []) (st := []) hO dX12_readTown_210 rfl (lw_t6 168 rfl rfl) kX12_bad (T := TX12) rfl (by decide) rfl (ctM_bad μ17 hp_μ17.at hp_μ17.wr) (by decide) rfl rfl rfl (Nat.le_of_ble_eq_true rfl) (fun μ50 hq51 => ?_)
                  have hb_μ50 := hp_μ17.bad hq51
                  have hf_μ50 : Fr (sT) μ μ50 := by rw [hq51]; exact hf_μ17.st (Or.inl ⟨rfl, by omega⟩) _
                  have hg_μ50 : RG μ50 := hg_μ17.w0 hq51
                  have ht_μ50 := ht_μ17.w0 hq51 (by decide)
                  refine aw_fg (ls' := [some (vR 0), some (vI z), none, none]) ⟨rfl, rfl, trivial⟩ ?_
                  exact tb p z μ50 hf_μ50 hg_μ50 hb_μ50 (by rw [← e0]; exact pTs_b (pTc_n (fun h => hzt h.2) (fun h => c105 h.1) (fun h => c159 h.1)))
                · have hlt := hG.lt (p := p) (by omega)
                  refine aw_aload_n hO dX12_readTown_162 rfl rfl ?_
                  refine gM_readTroubles hO dX12_readTown_163 rfl ?_
                  refine aw_cg ht_μ17.2.1.2 ?_
                  refine aw_iconst hO dX12_readTown_166 rfl ?_
                  refine aw_icmp_ge (tgt := 209) hO dX12_readTown_167 rfl rfl (inRn (by omega)) (inRlit _) (fun c167 => ?_) (fun c167 => ?_)
                  · refine aw_aload_n hO dX12_readTown_209 rfl rfl ?_
                    refine aw_callVV (as := []) (st := []) hO dX12_readTown_210 rfl (lw_t6 168 rfl rfl) kX12_bad (T := TX12) rfl (by decide) rfl (ctM_bad μ17 hp_μ17.at hp_μ17.wr) (by decide) rfl rfl rfl (Nat.le_of_ble_eq_true rfl) (fun μ53 hq54 => ?_)
                    have hb_μ53 := hp_μ17.bad hq54
                    have hf_μ53 : Fr (sT) μ μ53 := by rw [hq54]; exact hf_μ17.st (Or.inl ⟨rfl, by omega⟩) _
                    have hg_μ53 : RG μ53 := hg_μ17.w0 hq54
                    have ht_μ53 := ht_μ17.w0 hq54 (by decide)
                    refine aw_fg (ls' := [some (vR 0), some (vI z), none, none]) ⟨rfl, rfl, trivial⟩ ?_
                    exact tb p z μ53 hf_μ53 hg_μ53 hb_μ53 (by rw [← e0]; exact pTs_b (pTc_n (fun h => hzt h.2) (fun h => c105 h.1) (fun h => by have := h.2; omega)))
                  · refine aw_aload_n hO dX12_readTown_170 rfl rfl ?_
                    refine aw_dup hO dX12_readTown_171 rfl rfl ?_
                    refine gM_at hO dX12_readTown_172 rfl ?_
                    refine aw_cg hp_μ17.at ?_
                    refine aw_iconst hO dX12_readTown_175 rfl ?_
                    refine aw_iadd hO dX12_readTown_176 rfl ?_
                    refine pM_at hO dX12_readTown_177 rfl ?_
                    refine aw_mm (fun μ55 e_μ55 => ?_)
                    have hp_μ55 := hp_μ17.to (b := (p + 1)) (by omega) (show μ55 = mst μ17 0 3 (((p + 1) : Nat) : Int) by rw [e_μ55]; congr 1 <;> omega)
                    have hf_μ55 : Fr (sT) μ μ55 := by rw [e_μ55]; exact hf_μ17.st (Or.inl ⟨rfl, by omega⟩) _
                    have hg_μ55 : RG μ55 := hg_μ17.w0 e_μ55
                    have ht_μ55 := ht_μ17.w0 e_μ55 (by decide)
                    refine aw_aload_n hO dX12_readTown_180 rfl rfl ?_
                    refine aw_iload_n hO dX12_readTown_181 rfl rfl ?_
                    refine aw_aload_n hO dX12_readTown_182 rfl rfl ?_
                    refine gM_readTrouble hO dX12_readTown_183 rfl ?_
                    refine aw_iconst hO dX12_readTown_186 rfl ?_
                    refine aw_aload_n hO dX12_readTown_187 rfl rfl ?_
                    refine gM_readTroubles hO dX12_readTown_188 rfl ?_
                    refine aw_cg ht_μ55.2.1.2 ?_
                    refine aw_imul hO dX12_readTown_191 rfl ?_
                    refine aw_iconst hO dX12_readTown_192 rfl ?_
                    refine aw_stq (st' := [vI 3, vI (((3 * s.2.2.1) : Nat) : Int), vR 13, vI 116, vR 0]) (by rw [c159]; rfl) ?_
                    have hsg1 := sk_ge g (p + 1)
                    refine aw_callVV (as := [vI 116, vR 13, vI (((3 * s.2.2.1) : Nat) : Int), vI 3]) (st := []) hO dX12_readTown_193 rfl (lw_t6 148 rfl rfl) kX12_items (T := TX12) rfl (by decide) rfl (ctM_items_116 μ55 (i := s.2.2.1) (by omega) hp_μ55) (by decide) rfl rfl rfl (Nat.le_of_ble_eq_true rfl) (fun μ57 hq58 => ?_)
                    obtain ⟨hf0_μ57, hrr_μ57, hb0_μ57, hg0_μ57⟩ := hq58
                    have hf_μ57 : Fr sT μ μ57 := hf_μ55.tr (hf0_μ57.mono fun _ _ => sI_T (by decide))
                    have hg_μ57 : RG μ57 := hg_μ55.it hf0_μ57 (Or.inl (by decide)) (by decide)
                    rcases hx : pIt g 116 4 (sk g (p + 1)) (usR 116) 0 with ⟨q, _ | r⟩
                    · have hb_μ57 := hb0_μ57 q hx
                      have hTc := pTc_tb (s := s) c159 (by omega) hx
                      refine aw_aload_n hO dX12_readTown_196 rfl rfl ?_
                      refine aw_dup hO dX12_readTown_197 rfl rfl ?_
                      refine gM_readTroubles hO dX12_readTown_198 rfl ?_
                      refine aw_cg ((hf0_μ57.1 0 21 (by unfold sI; omega)).trans ht_μ55.2.1.2) ?_
                      refine aw_iconst hO dX12_readTown_201 rfl ?_
                      refine aw_iadd hO dX12_readTown_202 rfl ?_
                      refine pM_readTroubles hO dX12_readTown_203 rfl ?_
                      refine aw_mm (fun μ59 e_μ59 => ?_)
                      have hf_μ59 : Fr sT μ μ59 := by rw [e_μ59]; exact hf_μ57.st (Or.inl ⟨rfl, by omega⟩) _
                      have hg_μ59 : RG μ59 := hg_μ57.w0 e_μ59
                      have hb_μ59 := hb_μ57.st e_μ59 (by decide)
                      refine aw_goto (tgt := 213) hO dX12_readTown_206 rfl ?_
                      refine aw_fg (ls' := [some (vR 0), some (vI z), none, none]) ⟨rfl, rfl, trivial⟩ ?_
                      exact tb q z μ59 hf_μ59 hg_μ59 hb_μ59 (by rw [← e0]; exact pTs_b hTc)
                    · obtain ⟨⟨b, hs2, hp_μ57⟩, hrow⟩ := hg0_μ57 q r hx
                      have hTc := pTc_tg (s := s) c159 (by omega) hx
                      obtain ⟨z1, z2, z3, z4⟩ := (pTc_G hG hpN hok).2 q _ hTc
                      refine aw_aload_n hO dX12_readTown_196 rfl rfl ?_
                      refine aw_dup hO dX12_readTown_197 rfl rfl ?_
                      refine gM_readTroubles hO dX12_readTown_198 rfl ?_
                      refine aw_cg ((hf0_μ57.1 0 21 (by unfold sI; omega)).trans ht_μ55.2.1.2) ?_
                      refine aw_iconst hO dX12_readTown_201 rfl ?_
                      refine aw_iadd hO dX12_readTown_202 rfl ?_
                      refine pM_readTroubles hO dX12_readTown_203 rfl ?_
                      refine aw_mm (fun μ60 e_μ60 => ?_)
                      have hf_μ60 : Fr sT μ μ60 := by rw [e_μ60]; exact hf_μ57.st (Or.inl ⟨rfl, by omega⟩) _
                      have hg_μ60 : RG μ60 := hg_μ57.w0 e_μ60
                      have hp_μ60 := hp_μ57.st e_μ60 (by decide)
                      have hTn := ht_μ55.t hf0_μ57 hrow e_μ60
                      refine aw_goto (tgt := 213) hO dX12_readTown_206 rfl ?_
                      refine aw_fg (ls' := [some (vR 0), some (vI z), none, none]) ⟨rfl, rfl, trivial⟩ ?_
                      exact tg b q z (s.1, s.2.1, (s.2.2.1 + 1, fuR s.2.2.2 s.2.2.1 r)) μ60 hs2 z1 hz z4 hf_μ60 hg_μ60 hp_μ60 hTn (by rw [← e0]; exact (pTs_g hTc).symm)
              · have hlt := hG.lt (p := p) (by omega)
                refine aw_aload_n hO dX12_readTown_108 rfl rfl ?_
                refine gM_readPersons hO dX12_readTown_109 rfl ?_
                refine aw_cg ht_μ17.2.1.1 ?_
                refine aw_bipush hO dX12_readTown_112 rfl (by decide) (by decide) ?_
                refine aw_icmp_ge (tgt := 156) hO dX12_readTown_114 rfl rfl (inRn (by omega)) (inRlit _) (fun c114 => ?_) (fun c114 => ?_)
                · refine aw_iload_n hO dX12_readTown_156 rfl rfl ?_
                  refine aw_bipush hO dX12_readTown_157 rfl (by decide) (by decide) ?_
                  refine aw_icmp_ne (tgt := 209) hO dX12_readTown_159 rfl rfl ⟨by omega, by omega⟩ (inRlit _) (fun c159 => ?_) (fun c159 => ?_)
                  · refine aw_aload_n hO dX12_readTown_209 rfl rfl ?_
                    refine aw_callVV (as := []) (st := []) hO dX12_readTown_210 rfl (lw_t6 168 rfl rfl) kX12_bad (T := TX12) rfl (by decide) rfl (ctM_bad μ17 hp_μ17.at hp_μ17.wr) (by decide) rfl rfl rfl (Nat.le_of_ble_eq_true rfl) (fun μ62 hq63 => ?_)
                    have hb_μ62 := hp_μ17.bad hq63
                    have hf_μ62 : Fr (sT) μ μ62 := by rw [hq63]; exact hf_μ17.st (Or.inl ⟨rfl, by omega⟩) _
                    have hg_μ62 : RG μ62 := hg_μ17.w0 hq63
                    have ht_μ62 := ht_μ17.w0 hq63 (by decide)
                    refine aw_fg (ls' := [some (vR 0), some (vI z), none, none]) ⟨rfl, rfl, trivial⟩ ?_
                    exact tb p z μ62 hf_μ62 hg_μ62 hb_μ62 (by rw [← e0]; exact pTs_b (pTc_n (fun h => hzt h.2) (fun h => by have := h.2; omega) (fun h => c159 h.1)))
                  · have hlt := hG.lt (p := p) (by omega)
                    refine aw_aload_n hO dX12_readTown_162 rfl rfl ?_
                    refine gM_readTroubles hO dX12_readTown_163 rfl ?_
                    refine aw_cg ht_μ17.2.1.2 ?_
                    refine aw_iconst hO dX12_readTown_166 rfl ?_
                    refine aw_icmp_ge (tgt := 209) hO dX12_readTown_167 rfl rfl (inRn (by omega)) (inRlit _) (fun c167 => ?_) (fun c167 => ?_)
                    · refine aw_aload_n hO dX12_readTown_209 rfl rfl ?_
                      refine aw_callVV (as := []) (st := []) hO dX12_readTown_210 rfl (lw_t6 168 rfl rfl) kX12_bad (T := TX12) rfl (by decide) rfl (ctM_bad μ17 hp_μ17.at hp_μ17.wr) (by decide) rfl rfl rfl (Nat.le_of_ble_eq_true rfl) (fun μ65 hq66 => ?_)
                      have hb_μ65 := hp_μ17.bad hq66
                      have hf_μ65 : Fr (sT) μ μ65 := by rw [hq66]; exact hf_μ17.st (Or.inl ⟨rfl, by omega⟩) _
                      have hg_μ65 : RG μ65 := hg_μ17.w0 hq66
                      have ht_μ65 := ht_μ17.w0 hq66 (by decide)
                      refine aw_fg (ls' := [some (vR 0), some (vI z), none, none]) ⟨rfl, rfl, trivial⟩ ?_
                      exact tb p z μ65 hf_μ65 hg_μ65 hb_μ65 (by rw [← e0]; exact pTs_b (pTc_n (fun h => hzt h.2) (fun h => by have := h.2; omega) (fun h => by have := h.2; omega)))
                    · refine aw_aload_n hO dX12_readTown_170 rfl rfl ?_
                      refine aw_dup hO dX12_readTown_171 rfl rfl ?_
                      refine gM_at hO dX12_readTown_172 rfl ?_
                      refine aw_cg hp_μ17.at ?_
                      refine aw_iconst hO dX12_readTown_175 rfl ?_
                      refine aw_iadd hO dX12_readTown_176 rfl ?_
                      refine pM_at hO dX12_readTown_177 rfl ?_
                      refine aw_mm (fun μ67 e_μ67 => ?_)
                      have hp_μ67 := hp_μ17.to (b := (p + 1)) (by omega) (show μ67 = mst μ17 0 3 (((p + 1) : Nat) : Int) by rw [e_μ67]; congr 1 <;> omega)
                      have hf_μ67 : Fr (sT) μ μ67 := by rw [e_μ67]; exact hf_μ17.st (Or.inl ⟨rfl, by omega⟩) _
                      have hg_μ67 : RG μ67 := hg_μ17.w0 e_μ67
                      have ht_μ67 := ht_μ17.w0 e_μ67 (by decide)
                      refine aw_aload_n hO dX12_readTown_180 rfl rfl ?_
                      refine aw_iload_n hO dX12_readTown_181 rfl rfl ?_
                      refine aw_aload_n hO dX12_readTown_182 rfl rfl ?_
                      refine gM_readTrouble hO dX12_readTown_183 rfl ?_
                      refine aw_iconst hO dX12_readTown_186 rfl ?_
                      refine aw_aload_n hO dX12_readTown_187 rfl rfl ?_
                      refine gM_readTroubles hO dX12_readTown_188 rfl ?_
                      refine aw_cg ht_μ67.2.1.2 ?_
                      refine aw_imul hO dX12_readTown_191 rfl ?_
                      refine aw_iconst hO dX12_readTown_192 rfl ?_
                      refine aw_stq (st' := [vI 3, vI (((3 * s.2.2.1) : Nat) : Int), vR 13, vI 116, vR 0]) (by rw [c159]; rfl) ?_
                      have hsg1 := sk_ge g (p + 1)
                      refine aw_callVV (as := [vI 116, vR 13, vI (((3 * s.2.2.1) : Nat) : Int), vI 3]) (st := []) hO dX12_readTown_193 rfl (lw_t6 148 rfl rfl) kX12_items (T := TX12) rfl (by decide) rfl (ctM_items_116 μ67 (i := s.2.2.1) (by omega) hp_μ67) (by decide) rfl rfl rfl (Nat.le_of_ble_eq_true rfl) (fun μ69 hq70 => ?_)
                      obtain ⟨hf0_μ69, hrr_μ69, hb0_μ69, hg0_μ69⟩ := hq70
                      have hf_μ69 : Fr sT μ μ69 := hf_μ67.tr (hf0_μ69.mono fun _ _ => sI_T (by decide))
                      have hg_μ69 : RG μ69 := hg_μ67.it hf0_μ69 (Or.inl (by decide)) (by decide)
                      rcases hx : pIt g 116 4 (sk g (p + 1)) (usR 116) 0 with ⟨q, _ | r⟩
                      · have hb_μ69 := hb0_μ69 q hx
                        have hTc := pTc_tb (s := s) c159 (by omega) hx
                        refine aw_aload_n hO dX12_readTown_196 rfl rfl ?_
                        refine aw_dup hO dX12_readTown_197 rfl rfl ?_
                        refine gM_readTroubles hO dX12_readTown_198 rfl ?_
                        refine aw_cg ((hf0_μ69.1 0 21 (by unfold sI; omega)).trans ht_μ67.2.1.2) ?_
                        refine aw_iconst hO dX12_readTown_201 rfl ?_
                        refine aw_iadd hO dX12_readTown_202 rfl ?_
                        refine pM_readTroubles hO dX12_readTown_203 rfl ?_
                        refine aw_mm (fun μ71 e_μ71 => ?_)
                        have hf_μ71 : Fr sT μ μ71 := by rw [e_μ71]; exact hf_μ69.st (Or.inl ⟨rfl, by omega⟩) _
                        have hg_μ71 : RG μ71 := hg_μ69.w0 e_μ71
                        have hb_μ71 := hb_μ69.st e_μ71 (by decide)
                        refine aw_goto (tgt := 213) hO dX12_readTown_206 rfl ?_
                        refine aw_fg (ls' := [some (vR 0), some (vI z), none, none]) ⟨rfl, rfl, trivial⟩ ?_
                        exact tb q z μ71 hf_μ71 hg_μ71 hb_μ71 (by rw [← e0]; exact pTs_b hTc)
                      · obtain ⟨⟨b, hs2, hp_μ69⟩, hrow⟩ := hg0_μ69 q r hx
                        have hTc := pTc_tg (s := s) c159 (by omega) hx
                        obtain ⟨z1, z2, z3, z4⟩ := (pTc_G hG hpN hok).2 q _ hTc
                        refine aw_aload_n hO dX12_readTown_196 rfl rfl ?_
                        refine aw_dup hO dX12_readTown_197 rfl rfl ?_
                        refine gM_readTroubles hO dX12_readTown_198 rfl ?_
                        refine aw_cg ((hf0_μ69.1 0 21 (by unfold sI; omega)).trans ht_μ67.2.1.2) ?_
                        refine aw_iconst hO dX12_readTown_201 rfl ?_
                        refine aw_iadd hO dX12_readTown_202 rfl ?_
                        refine pM_readTroubles hO dX12_readTown_203 rfl ?_
                        refine aw_mm (fun μ72 e_μ72 => ?_)
                        have hf_μ72 : Fr sT μ μ72 := by rw [e_μ72]; exact hf_μ69.st (Or.inl ⟨rfl, by omega⟩) _
                        have hg_μ72 : RG μ72 := hg_μ69.w0 e_μ72
                        have hp_μ72 := hp_μ69.st e_μ72 (by decide)
                        have hTn := ht_μ67.t hf0_μ69 hrow e_μ72
                        refine aw_goto (tgt := 213) hO dX12_readTown_206 rfl ?_
                        refine aw_fg (ls' := [some (vR 0), some (vI z), none, none]) ⟨rfl, rfl, trivial⟩ ?_
                        exact tg b q z (s.1, s.2.1, (s.2.2.1 + 1, fuR s.2.2.2 s.2.2.1 r)) μ72 hs2 z1 hz z4 hf_μ72 hg_μ72 hp_μ72 hTn (by rw [← e0]; exact (pTs_g hTc).symm)
                · refine aw_aload_n hO dX12_readTown_117 rfl rfl ?_
                  refine aw_dup hO dX12_readTown_118 rfl rfl ?_
                  refine gM_at hO dX12_readTown_119 rfl ?_
                  refine aw_cg hp_μ17.at ?_
                  refine aw_iconst hO dX12_readTown_122 rfl ?_
                  refine aw_iadd hO dX12_readTown_123 rfl ?_
                  refine pM_at hO dX12_readTown_124 rfl ?_
                  refine aw_mm (fun μ73 e_μ73 => ?_)
                  have hp_μ73 := hp_μ17.to (b := (p + 1)) (by omega) (show μ73 = mst μ17 0 3 (((p + 1) : Nat) : Int) by rw [e_μ73]; congr 1 <;> omega)
                  have hf_μ73 : Fr (sT) μ μ73 := by rw [e_μ73]; exact hf_μ17.st (Or.inl ⟨rfl, by omega⟩) _
                  have hg_μ73 : RG μ73 := hg_μ17.w0 e_μ73
                  have ht_μ73 := ht_μ17.w0 e_μ73 (by decide)
                  refine aw_aload_n hO dX12_readTown_127 rfl rfl ?_
                  refine aw_iload_n hO dX12_readTown_128 rfl rfl ?_
                  refine aw_aload_n hO dX12_readTown_129 rfl rfl ?_
                  refine gM_readPerson hO dX12_readTown_130 rfl ?_
                  refine aw_iconst hO dX12_readTown_133 rfl ?_
                  refine aw_aload_n hO dX12_readTown_134 rfl rfl ?_
                  refine gM_readPersons hO dX12_readTown_135 rfl ?_
                  refine aw_cg ht_μ73.2.1.1 ?_
                  refine aw_imul hO dX12_readTown_138 rfl ?_
                  refine aw_iconst hO dX12_readTown_139 rfl ?_
                  refine aw_stq (st' := [vI 4, vI (((4 * s.2.1.1) : Nat) : Int), vR 12, vI 112, vR 0]) (by rw [c105]; rfl) ?_
                  have hsg1 := sk_ge g (p + 1)
                  refine aw_callVV (as := [vI 112, vR 12, vI (((4 * s.2.1.1) : Nat) : Int), vI 4]) (st := []) hO dX12_readTown_140 rfl (lw_t6 148 rfl rfl) kX12_items (T := TX12) rfl (by decide) rfl (ctM_items_112 μ73 (i := s.2.1.1) (by omega) hp_μ73) (by decide) rfl rfl rfl (Nat.le_of_ble_eq_true rfl) (fun μ75 hq76 => ?_)
                  obtain ⟨hf0_μ75, hrr_μ75, hb0_μ75, hg0_μ75⟩ := hq76
                  have hf_μ75 : Fr sT μ μ75 := hf_μ73.tr (hf0_μ75.mono fun _ _ => sI_T (by decide))
                  have hg_μ75 : RG μ75 := hg_μ73.it hf0_μ75 (Or.inr ⟨rfl, hrr_μ75⟩) (by decide)
                  rcases hx : pIt g 112 4 (sk g (p + 1)) (usR 112) 0 with ⟨q, _ | r⟩
                  · have hb_μ75 := hb0_μ75 q hx
                    have hTc := pTc_pb (s := s) c105 (by omega) hx
                    refine aw_aload_n hO dX12_readTown_143 rfl rfl ?_
                    refine aw_dup hO dX12_readTown_144 rfl rfl ?_
                    refine gM_readPersons hO dX12_readTown_145 rfl ?_
                    refine aw_cg ((hf0_μ75.1 0 20 (by unfold sI; omega)).trans ht_μ73.2.1.1) ?_
                    refine aw_iconst hO dX12_readTown_148 rfl ?_
                    refine aw_iadd hO dX12_readTown_149 rfl ?_
                    refine pM_readPersons hO dX12_readTown_150 rfl ?_
                    refine aw_mm (fun μ77 e_μ77 => ?_)
                    have hf_μ77 : Fr sT μ μ77 := by rw [e_μ77]; exact hf_μ75.st (Or.inl ⟨rfl, by omega⟩) _
                    have hg_μ77 : RG μ77 := hg_μ75.w0 e_μ77
                    have hb_μ77 := hb_μ75.st e_μ77 (by decide)
                    refine aw_goto (tgt := 213) hO dX12_readTown_153 rfl ?_
                    refine aw_fg (ls' := [some (vR 0), some (vI z), none, none]) ⟨rfl, rfl, trivial⟩ ?_
                    exact tb q z μ77 hf_μ77 hg_μ77 hb_μ77 (by rw [← e0]; exact pTs_b hTc)
                  · obtain ⟨⟨b, hs2, hp_μ75⟩, hrow⟩ := hg0_μ75 q r hx
                    have hTc := pTc_pg (s := s) c105 (by omega) hx
                    obtain ⟨z1, z2, z3, z4⟩ := (pTc_G hG hpN hok).2 q _ hTc
                    refine aw_aload_n hO dX12_readTown_143 rfl rfl ?_
                    refine aw_dup hO dX12_readTown_144 rfl rfl ?_
                    refine gM_readPersons hO dX12_readTown_145 rfl ?_
                    refine aw_cg ((hf0_μ75.1 0 20 (by unfold sI; omega)).trans ht_μ73.2.1.1) ?_
                    refine aw_iconst hO dX12_readTown_148 rfl ?_
                    refine aw_iadd hO dX12_readTown_149 rfl ?_
                    refine pM_readPersons hO dX12_readTown_150 rfl ?_
                    refine aw_mm (fun μ78 e_μ78 => ?_)
                    have hf_μ78 : Fr sT μ μ78 := by rw [e_μ78]; exact hf_μ75.st (Or.inl ⟨rfl, by omega⟩) _
                    have hg_μ78 : RG μ78 := hg_μ75.w0 e_μ78
                    have hp_μ78 := hp_μ75.st e_μ78 (by decide)
                    have hTn := ht_μ73.p hf0_μ75 hrow e_μ78
                    refine aw_goto (tgt := 213) hO dX12_readTown_153 rfl ?_
                    refine aw_fg (ls' := [some (vR 0), some (vI z), none, none]) ⟨rfl, rfl, trivial⟩ ?_
                    exact tg b q z (s.1, (s.2.1.1 + 1, fuR s.2.1.2 s.2.1.1 r), s.2.2) μ78 hs2 z1 hz z4 hf_μ78 hg_μ78 hp_μ78 hTn (by rw [← e0]; exact (pTs_g hTc).symm)
            · have hzf : s.1.1 = false := by
                cases hh : s.1.1
                · rfl
                · rw [hh] at hz; simp at hz; omega
              refine aw_iconst hO dX12_readTown_76 rfl ?_
              refine aw_istore_n (ls' := [some (vR 0), some (vI 1), some (vI 1), some (vI (g p))]) hO dX12_readTown_77 rfl (Nat.le_of_ble_eq_true rfl) rfl rfl ?_
              refine aw_aload_n hO dX12_readTown_78 rfl rfl ?_
              refine aw_dup hO dX12_readTown_79 rfl rfl ?_
              refine gM_at hO dX12_readTown_80 rfl ?_
              refine aw_cg hp_μ17.at ?_
              refine aw_iconst hO dX12_readTown_83 rfl ?_
              refine aw_iadd hO dX12_readTown_84 rfl ?_
              refine pM_at hO dX12_readTown_85 rfl ?_
              refine aw_mm (fun μ79 e_μ79 => ?_)
              have hp_μ79 := hp_μ17.to (b := (p + 1)) (by omega) (show μ79 = mst μ17 0 3 (((p + 1) : Nat) : Int) by rw [e_μ79]; congr 1 <;> omega)
              have hf_μ79 : Fr (sT) μ μ79 := by rw [e_μ79]; exact hf_μ17.st (Or.inl ⟨rfl, by omega⟩) _
              have hg_μ79 : RG μ79 := hg_μ17.w0 e_μ79
              have ht_μ79 := ht_μ17.w0 e_μ79 (by decide)
              refine aw_aload_n hO dX12_readTown_88 rfl rfl ?_
              refine aw_iload_n hO dX12_readTown_89 rfl rfl ?_
              refine aw_aload_n hO dX12_readTown_90 rfl rfl ?_
              refine gM_readRule hO dX12_readTown_91 rfl ?_
              refine aw_iconst hO dX12_readTown_94 rfl ?_
              refine aw_iconst hO dX12_readTown_95 rfl ?_
              refine aw_stq (st' := [vI 4, vI 0, vR 11, vI 115, vR 0]) (by rw [c69]) ?_
              have hsg1 := sk_ge g (p + 1)
              refine aw_callVV (as := [vI 115, vR 11, vI 0, vI 4]) (st := []) hO dX12_readTown_96 rfl (lw_t6 148 rfl rfl) kX12_items (T := TX12) rfl (by decide) rfl (ctM_items_115 μ79 hp_μ79) (by decide) rfl rfl rfl (Nat.le_of_ble_eq_true rfl) (fun μ81 hq82 => ?_)
              obtain ⟨hf0_μ81, hrr_μ81, hb0_μ81, hg0_μ81⟩ := hq82
              have hf_μ81 : Fr sT μ μ81 := hf_μ79.tr (hf0_μ81.mono fun _ _ => sI_T (by decide))
              have hg_μ81 : RG μ81 := hg_μ79.it hf0_μ81 (Or.inl (by decide)) (by decide)
              rcases hx : pIt g 115 4 (sk g (p + 1)) (usR 115) 0 with ⟨q, _ | r⟩
              · have hb_μ81 := hb0_μ81 q hx
                have hTc := pTc_sb (s := s) c69 hzf hx
                refine aw_goto (tgt := 213) hO dX12_readTown_99 rfl ?_
                refine aw_fg (ls' := [some (vR 0), some (vI 1), none, none]) ⟨rfl, rfl, trivial⟩ ?_
                exact tb q 1 μ81 hf_μ81 hg_μ81 hb_μ81 (by rw [← e0]; exact pTs_b hTc)
              · obtain ⟨⟨b, hs2, hp_μ81⟩, hrow⟩ := hg0_μ81 q r hx
                have hTc := pTc_sg (s := s) c69 hzf hx
                obtain ⟨z1, z2, z3, z4⟩ := (pTc_G hG hpN hok).2 q _ hTc
                have hTn := ht_μ79.s hf0_μ81 hrow
                refine aw_goto (tgt := 213) hO dX12_readTown_99 rfl ?_
                refine aw_fg (ls' := [some (vR 0), some (vI 1), none, none]) ⟨rfl, rfl, trivial⟩ ?_
                exact tg b q 1 ((true, r), s.2) μ81 hs2 z1 rfl z4 hf_μ81 hg_μ81 hp_μ81 hTn (by rw [← e0]; exact (pTs_g hTc).symm)
  have l0 : ∀ (c k : Nat) (m : Mm), k + c = 4 → Fr sT μ m → RG m → PQ g N τ m 0 → (∀ j, j < k → m.1 11 j = usR 115 j) → m.1 0 20 = 0 → m.1 0 21 = 0 → AW K 24 [some (vR 0), some (vI 0), some (vI ((k : Nat) : Int)), none] [] m := by
    intro c
    induction c with
    | zero =>
      intro k m hk hF hR hm hw h20 h21
      have hk4 : k = 4 := by omega
      subst hk4
      refine aw_iload_n hO dX12_readTown_24 rfl rfl ?_
      refine aw_iconst hO dX12_readTown_25 rfl ?_
      refine aw_icmp_ge (tgt := 47) hO dX12_readTown_26 rfl rfl (inRn (by omega)) (inRlit _) (fun c26 => ?_) (fun c26 => ?_)
      · refine aw_iconst hO dX12_readTown_47 rfl ?_
        refine aw_istore_n (ls' := [some (vR 0), some (vI 0), some (vI 1), none]) hO dX12_readTown_48 rfl (Nat.le_of_ble_eq_true rfl) rfl rfl ?_
        exact lp 241 0 0 tw0 m (by omega) hm ⟨hw, ⟨h20, h21⟩, fun i hi => absurd hi (Nat.not_lt_zero _), fun i hi => absurd hi (Nat.not_lt_zero _)⟩ hR rfl tw0_ok hF rfl
      · exact absurd c26 (by omega)
    | succ c ih =>
      intro k m hk hF hR hm hw h20 h21
      refine aw_iload_n hO dX12_readTown_24 rfl rfl ?_
      refine aw_iconst hO dX12_readTown_25 rfl ?_
      refine aw_icmp_ge (tgt := 47) hO dX12_readTown_26 rfl rfl (inRn (by omega)) (inRlit _) (fun c26 => ?_) (fun c26 => ?_)
      · exact absurd c26 (by omega)
      · refine aw_aload_n hO dX12_readTown_29 rfl rfl ?_
        refine gM_readRule hO dX12_readTown_30 rfl ?_
        refine aw_iload_n hO dX12_readTown_33 rfl rfl ?_
        refine aw_bipush hO dX12_readTown_34 rfl (by decide) (by decide) ?_
        refine aw_iload_n hO dX12_readTown_36 rfl rfl ?_
        refine aw_callSI (as := [vI 115, vI ((k : Nat) : Int)]) (st := [vI ((k : Nat) : Int), vR 11]) hO dX12_readTown_37 rfl (lw_t6 137 rfl rfl) kX12_usual (ctM_usual_115 m (v := ((k : Nat) : Int)) (inRn (by omega))) (by decide) rfl rfl rfl (Nat.le_of_ble_eq_true rfl) ?_
        refine aw_iastn (N := 4) (i := k) hO dX12_readTown_40 rfl (by decide) rfl (by decide) rfl (by omega) ?_
        refine aw_mm (fun μ83 e_μ83 => ?_)
        have hf_μ83 : Fr sT μ μ83 := by rw [e_μ83]; exact hF.st (Or.inr (Or.inl rfl)) _
        have hp_μ83 := hm.off e_μ83 (by decide)
        have hw_μ83 : ∀ j, j < k + 1 → μ83.1 11 j = usR 115 j := fun j hj => by
          by_cases ej : j = k
          · rw [ej, e_μ83, mst_eq]; rfl
          · rw [e_μ83, mst_ni ej]; exact hw j (by omega)
        refine aw_iinc (ls' := [some (vR 0), some (vI 0), some (vI (((k : Nat) : Int) + 1)), none]) hO dX12_readTown_41 rfl rfl rfl rfl ?_
        refine aw_lsq (ls' := [some (vR 0), some (vI 0), some (vI (((k + 1) : Nat) : Int)), none]) rfl ?_
        refine aw_goto (tgt := 24) hO dX12_readTown_44 rfl ?_
        exact ih (k + 1) μ83 (by omega) hf_μ83 (fun j hj => by rw [e_μ83, mst_nk (by decide)]; exact hR j hj) hp_μ83 hw_μ83 (by rw [e_μ83, mst_nk (by decide)]; exact h20) (by rw [e_μ83, mst_nk (by decide)]; exact h21)
  refine aw_aload_n hO dX12_readTown_0 rfl rfl ?_
  refine aw_iconst hO dX12_readTown_1 rfl ?_
  refine pM_at hO dX12_readTown_2 rfl ?_
  refine aw_mm (fun μ84 e_μ84 => ?_)
  refine aw_aload_n hO dX12_readTown_5 rfl rfl ?_
  refine aw_iconst hO dX12_readTown_6 rfl ?_
  refine pM_wrong hO dX12_readTown_7 rfl ?_
  refine aw_mm (fun μ85 e_μ85 => ?_)
  refine aw_aload_n hO dX12_readTown_10 rfl rfl ?_
  refine aw_iconst hO dX12_readTown_11 rfl ?_
  refine pM_readPersons hO dX12_readTown_12 rfl ?_
  refine aw_mm (fun μ86 e_μ86 => ?_)
  refine aw_aload_n hO dX12_readTown_15 rfl rfl ?_
  refine aw_iconst hO dX12_readTown_16 rfl ?_
  refine pM_readTroubles hO dX12_readTown_17 rfl ?_
  refine aw_mm (fun μ87 e_μ87 => ?_)
  refine aw_iconst hO dX12_readTown_20 rfl ?_
  refine aw_istore_n (ls' := [some (vR 0), some (vI 0), none, none]) hO dX12_readTown_21 rfl (Nat.le_of_ble_eq_true rfl) rfl rfl ?_
  refine aw_iconst hO dX12_readTown_22 rfl ?_
  refine aw_istore_n (ls' := [some (vR 0), some (vI 0), some (vI 0), none]) hO dX12_readTown_23 rfl (Nat.le_of_ble_eq_true rfl) rfl rfl ?_
  refine aw_lsq (ls' := [some (vR 0), some (vI 0), some (vI ((0 : Nat) : Int)), none]) rfl ?_
  have hpt : PT g N τ μ87 := by rw [e_μ87, e_μ86, e_μ85, e_μ84]; exact (((h.wr (Or.inl ⟨rfl, by decide, by decide⟩)).wr (Or.inl ⟨rfl, by decide, by decide⟩)).wr (Or.inl ⟨rfl, by decide, by decide⟩)).wr (Or.inl ⟨rfl, by decide, by decide⟩)
  exact l0 4 0 μ87 rfl (by rw [e_μ87, e_μ86, e_μ85, e_μ84]; exact (((Fr.rf.st (Or.inl ⟨rfl, by omega⟩) _).st (Or.inl ⟨rfl, by omega⟩) _).st (Or.inl ⟨rfl, by omega⟩) _).st (Or.inl ⟨rfl, by omega⟩) _) ((((hRG.w0 e_μ84).w0 e_μ85).w0 e_μ86).w0 e_μ87) ⟨hpt, ⟨by rw [e_μ87, mst_ni (by decide), e_μ86, mst_ni (by decide), e_μ85, mst_ni (by decide), e_μ84, mst_eq]; rfl, by rw [e_μ87, mst_ni (by decide), e_μ86, mst_ni (by decide), e_μ85, mst_eq]⟩, Nat.zero_le _⟩ (fun j hj => absurd hj (Nat.not_lt_zero _)) (by rw [e_μ87, mst_ni (by decide), e_μ86, mst_eq]) (by rw [e_μ87, mst_eq])
