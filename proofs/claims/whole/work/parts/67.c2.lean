
/-! ## laws as the class holds them -/
def sgn (op : Int) : Int := if op = 2 then 43 else if op = 3 then 45 else if op = 4 then 42 else if op = 5 then 47 else if op = 6 then 61 else if op = 7 then 60 else if op = 8 then 62 else if op = 9 then 33 else if op = 10 then 38 else 124
def enc (t : Tok) : Int := if t.1 = 0 then t.2 else if t.1 = 1 then 10000 + t.2 else 11000 + sgn t.1
theorem sgn_rng (op : Int) : 33 ≤ sgn op ∧ sgn op ≤ 124 ∧ sgn op ≠ 59 := by
  unfold sgn
  repeat' split
  all_goals omega
/-- the cells of some clauses that begin at place p -/
def cmpL : Nat → List Cl → List Int
  | _, [] => []
  | p, (none, s) :: r => s.map enc ++ 11059 :: cmpL (p + s.length + 1) r
  | p, (some t, s) :: r => t.map enc ++ (12000 + ((p + t.length + s.length + 2 : Nat) : Int)) :: (s.map enc ++ 11059 :: cmpL (p + t.length + s.length + 2) r)
def worthL (lt : Nat → Int) : List Cl → Int
  | [] => 0
  | c :: r => if (∀ t, c.1 = some t → (evs lt t []).headD 0 ≠ 0) then (evs lt c.2 []).headD 0 else worthL lt r
theorem worthL_n {lt : Nat → Int} {s : List Tok} {r : List Cl} : worthL lt ((none, s) :: r) = (evs lt s []).headD 0 := by
  rw [worthL, if_pos (fun t e => by simp at e)]
theorem worthL_t {lt : Nat → Int} {t s : List Tok} {r : List Cl} (h : (evs lt t []).headD 0 ≠ 0) : worthL lt ((some t, s) :: r) = (evs lt s []).headD 0 := by
  rw [worthL, if_pos (fun t' e => by simp only [Option.some.injEq] at e; rw [← e]; exact h)]
theorem worthL_f {lt : Nat → Int} {t s : List Tok} {r : List Cl} (h : (evs lt t []).headD 0 = 0) : worthL lt ((some t, s) :: r) = worthL lt r := by
  rw [worthL, if_neg (fun q => q t rfl h)]
/-- cells of a row from place i on -/
def At (f : Nat → Int) (i : Nat) : List Int → Prop
  | [] => True
  | a :: r => f i = a ∧ At f (i + 1) r
theorem At.app {f : Nat → Int} : ∀ {a b : List Int} {i : Nat}, At f i (a ++ b) → At f i a ∧ At f (i + a.length) b
  | [], _, _, h => ⟨trivial, h⟩
  | x :: a, b, i, h => by
    obtain ⟨h1, h2⟩ := h
    obtain ⟨h3, h4⟩ := At.app (a := a) h2
    refine ⟨⟨h1, h3⟩, ?_⟩
    rw [show i + (x :: a).length = i + 1 + a.length by simp only [List.length_cons]; omega]
    exact h4
theorem At.mk {f : Nat → Int} : ∀ {a b : List Int} {i : Nat}, At f i a → At f (i + a.length) b → At f i (a ++ b)
  | [], _, _, _, h => h
  | x :: a, b, i, h, h2 => by
    refine ⟨h.1, At.mk (a := a) h.2 ?_⟩
    rw [show i + 1 + a.length = i + (x :: a).length by simp only [List.length_cons]; omega]
    exact h2
theorem At.of {f g : Nat → Int} : ∀ {a : List Int} {i : Nat}, At f i a → (∀ j, i ≤ j → j < i + a.length → g j = f j) → At g i a
  | [], _, _, _ => trivial
  | x :: a, i, h, hg => ⟨(hg i (by omega) (by simp only [List.length_cons]; omega)).trans h.1, At.of (a := a) h.2 (fun j h1 h2 => hg j (by omega) (by simp only [List.length_cons]; omega))⟩
def LawC (μ : Mm) (k : Nat) (l : List Cl) : Prop := μ.1 k 2 = ((cmpL 0 l).length : Int) ∧ At (μ.1 (k + 1)) 0 (cmpL 0 l) ∧ (cmpL 0 l).length ≤ 240 ∧ ∀ c ∈ l, WC c
/-- an object that is a law: its cells and its stack are the next cells -/
def Lob (k : Nat) : Prop := (k = 13 ∨ k = 16 ∨ k = 19 ∨ k = 22)
theorem Lob.o {k : Nat} (h : Lob k) : k < 86 ∧ layC k = .inr (.inr (4, [k + 1 + 3, k + 2 + 3, 0])) := by rcases h with rfl | rfl | rfl | rfl <;> exact ⟨by decide, rfl⟩
theorem Lob.a {k : Nat} (h : Lob k) : k + 1 < 86 ∧ layC (k + 1) = .inl (.int, 240) := by rcases h with rfl | rfl | rfl | rfl <;> exact ⟨by decide, rfl⟩
theorem Lob.b {k : Nat} (h : Lob k) : k + 2 < 86 ∧ layC (k + 2) = .inl (.int, 32) := by rcases h with rfl | rfl | rfl | rfl <;> exact ⟨by decide, rfl⟩
def jn (op a b : Int) : Int := if op = 2 then a + b else if op = 3 then a - b else if op = 4 then a * b else if op = 5 then (if b = 0 then 0 else a.tdiv b) else if op = 6 then (if a = b then 1 else 0) else if op = 7 then (if a < b then 1 else 0) else if op = 8 then (if b < a then 1 else 0) else if op = 10 then lAnd a b else lOr a b
theorem clamp_small {v : Int} (h1 : -1000000 ≤ v) (h2 : v ≤ 1000000) : clampI 1000000 v = v := by unfold clampI; omega
theorem jn_wk {op a b : Int} (ho : op ≤ 8 ∨ op = 10 ∨ op = 11) (ho2 : 2 ≤ op) : clampI 1000000 (jn op a b) = wkC op a b := by
  unfold jn wkC wkd
  by_cases h2 : op = 2
  · subst h2; rfl
  by_cases h3 : op = 3
  · subst h3; rfl
  by_cases h4 : op = 4
  · subst h4; rfl
  by_cases h5 : op = 5
  · subst h5
    show clampI 1000000 (if b = 0 then 0 else a.tdiv b) = if b = 0 then 0 else clampI 1000000 (a.tdiv b)
    split
    · exact clamp_small (by decide) (by decide)
    · rfl
  by_cases h6 : op = 6
  · subst h6
    show clampI 1000000 (if a = b then 1 else 0) = if a = b then 1 else 0
    split <;> exact clamp_small (by decide) (by decide)
  by_cases h7 : op = 7
  · subst h7
    show clampI 1000000 (if a < b then 1 else 0) = if a < b then 1 else 0
    split <;> exact clamp_small (by decide) (by decide)
  by_cases h8 : op = 8
  · subst h8
    show clampI 1000000 (if b < a then 1 else 0) = if b < a then 1 else 0
    split <;> exact clamp_small (by decide) (by decide)
  by_cases h10 : op = 10
  · subst h10; rfl
  by_cases h11 : op = 11
  · subst h11; rfl
  omega
theorem wkC_rng (op a b : Int) : -1000000 ≤ wkC op a b ∧ wkC op a b ≤ 1000000 := by
  unfold wkC
  split
  · exact clampI_rng (by decide)
  · split
    · exact clampI_rng (by decide)
    · exact wkd_rng _ _ _
theorem dX4_join_0 : decode cX4_join 0 = .ok (.iload_n 0, 1) := by decide +kernel
theorem dX4_join_1 : decode cX4_join 1 = .ok (.tableswitch 181 38 62 #[177, 181, 181, 181, 123, 115, 181, 119, 181, 127, 181, 181, 181, 181, 181, 181, 181, 181, 181, 181, 181, 181, 153, 141, 165], 115) := by decide +kernel
theorem dX4_join_116 : decode cX4_join 116 = .ok (.lload_n 1, 1) := by decide +kernel
theorem dX4_join_117 : decode cX4_join 117 = .ok (.lload_n 3, 1) := by decide +kernel
theorem dX4_join_118 : decode cX4_join 118 = .ok (.ladd, 1) := by decide +kernel
theorem dX4_join_119 : decode cX4_join 119 = .ok (.lreturn, 1) := by decide +kernel
theorem dX4_join_120 : decode cX4_join 120 = .ok (.lload_n 1, 1) := by decide +kernel
theorem dX4_join_121 : decode cX4_join 121 = .ok (.lload_n 3, 1) := by decide +kernel
theorem dX4_join_122 : decode cX4_join 122 = .ok (.lsub, 1) := by decide +kernel
theorem dX4_join_123 : decode cX4_join 123 = .ok (.lreturn, 1) := by decide +kernel
theorem dX4_join_124 : decode cX4_join 124 = .ok (.lload_n 1, 1) := by decide +kernel
theorem dX4_join_125 : decode cX4_join 125 = .ok (.lload_n 3, 1) := by decide +kernel
theorem dX4_join_126 : decode cX4_join 126 = .ok (.lmul, 1) := by decide +kernel
theorem dX4_join_127 : decode cX4_join 127 = .ok (.lreturn, 1) := by decide +kernel
theorem dX4_join_128 : decode cX4_join 128 = .ok (.lload_n 3, 1) := by decide +kernel
theorem dX4_join_129 : decode cX4_join 129 = .ok (.lconst 0, 1) := by decide +kernel
theorem dX4_join_130 : decode cX4_join 130 = .ok (.lcmp, 1) := by decide +kernel
theorem dX4_join_131 : decode cX4_join 131 = .ok (.ifCond .ne 7, 3) := by decide +kernel
theorem dX4_join_134 : decode cX4_join 134 = .ok (.lconst 0, 1) := by decide +kernel
theorem dX4_join_135 : decode cX4_join 135 = .ok (.goto 6, 3) := by decide +kernel
theorem dX4_join_138 : decode cX4_join 138 = .ok (.lload_n 1, 1) := by decide +kernel
theorem dX4_join_139 : decode cX4_join 139 = .ok (.lload_n 3, 1) := by decide +kernel
theorem dX4_join_140 : decode cX4_join 140 = .ok (.ldiv, 1) := by decide +kernel
theorem dX4_join_141 : decode cX4_join 141 = .ok (.lreturn, 1) := by decide +kernel
theorem dX4_join_142 : decode cX4_join 142 = .ok (.lload_n 1, 1) := by decide +kernel
theorem dX4_join_143 : decode cX4_join 143 = .ok (.lload_n 3, 1) := by decide +kernel
theorem dX4_join_144 : decode cX4_join 144 = .ok (.lcmp, 1) := by decide +kernel
theorem dX4_join_145 : decode cX4_join 145 = .ok (.ifCond .ne 7, 3) := by decide +kernel
theorem dX4_join_148 : decode cX4_join 148 = .ok (.lconst 1, 1) := by decide +kernel
theorem dX4_join_149 : decode cX4_join 149 = .ok (.goto 4, 3) := by decide +kernel
theorem dX4_join_152 : decode cX4_join 152 = .ok (.lconst 0, 1) := by decide +kernel
theorem dX4_join_153 : decode cX4_join 153 = .ok (.lreturn, 1) := by decide +kernel
theorem dX4_join_154 : decode cX4_join 154 = .ok (.lload_n 1, 1) := by decide +kernel
theorem dX4_join_155 : decode cX4_join 155 = .ok (.lload_n 3, 1) := by decide +kernel
theorem dX4_join_156 : decode cX4_join 156 = .ok (.lcmp, 1) := by decide +kernel
theorem dX4_join_157 : decode cX4_join 157 = .ok (.ifCond .ge 7, 3) := by decide +kernel
theorem dX4_join_160 : decode cX4_join 160 = .ok (.lconst 1, 1) := by decide +kernel
theorem dX4_join_161 : decode cX4_join 161 = .ok (.goto 4, 3) := by decide +kernel
theorem dX4_join_164 : decode cX4_join 164 = .ok (.lconst 0, 1) := by decide +kernel
theorem dX4_join_165 : decode cX4_join 165 = .ok (.lreturn, 1) := by decide +kernel
theorem dX4_join_166 : decode cX4_join 166 = .ok (.lload_n 1, 1) := by decide +kernel
theorem dX4_join_167 : decode cX4_join 167 = .ok (.lload_n 3, 1) := by decide +kernel
theorem dX4_join_168 : decode cX4_join 168 = .ok (.lcmp, 1) := by decide +kernel
theorem dX4_join_169 : decode cX4_join 169 = .ok (.ifCond .le 7, 3) := by decide +kernel
theorem dX4_join_172 : decode cX4_join 172 = .ok (.lconst 1, 1) := by decide +kernel
theorem dX4_join_173 : decode cX4_join 173 = .ok (.goto 4, 3) := by decide +kernel
theorem dX4_join_176 : decode cX4_join 176 = .ok (.lconst 0, 1) := by decide +kernel
theorem dX4_join_177 : decode cX4_join 177 = .ok (.lreturn, 1) := by decide +kernel
theorem dX4_join_178 : decode cX4_join 178 = .ok (.lload_n 1, 1) := by decide +kernel
theorem dX4_join_179 : decode cX4_join 179 = .ok (.lload_n 3, 1) := by decide +kernel
theorem dX4_join_180 : decode cX4_join 180 = .ok (.land, 1) := by decide +kernel
theorem dX4_join_181 : decode cX4_join 181 = .ok (.lreturn, 1) := by decide +kernel
theorem dX4_join_182 : decode cX4_join 182 = .ok (.lload_n 1, 1) := by decide +kernel
theorem dX4_join_183 : decode cX4_join 183 = .ok (.lload_n 3, 1) := by decide +kernel
theorem dX4_join_184 : decode cX4_join 184 = .ok (.lor, 1) := by decide +kernel
theorem dX4_join_185 : decode cX4_join 185 = .ok (.lreturn, 1) := by decide +kernel
set_option maxHeartbeats 4000000 in
set_option maxRecDepth 100000 in
theorem ctC_join_2 (μ : Mm) {a b : Int} (h1 : -2000000 ≤ a) (h2 : a ≤ 2000000) (h3 : -2000000 ≤ b) (h4 : b ≤ 2000000) : CtL PC 0 yX4_join cX4_join 5 (some .long) [vI 43, vL a, vL b] μ (fun r m => r = (a + b) ∧ m = μ) := by
  refine ct_intro [some (vI 43), some (vL a), none, some (vL b), none] RX4 (by decide) rfl XCo rfl (Nat.le_of_ble_eq_true rfl) (fun K hO => ?_)
  refine aw_iload_n hO dX4_join_0 rfl rfl ?_
  refine aw_tableIn (off := 115) (tgt := 116) hO dX4_join_1 (inRlit _) (by decide) (by decide) rfl rfl ?_
  refine aw_lload_n hO dX4_join_116 rfl rfl ?_
  refine aw_lload_n hO dX4_join_117 rfl rfl ?_
  refine aw_ladd hO dX4_join_118 rfl ?_
  refine aw_lret hO dX4_join_119 ?_
  exact ⟨_, rfl, rfl, rfl⟩
set_option maxHeartbeats 4000000 in
set_option maxRecDepth 100000 in
theorem ctC_join_3 (μ : Mm) {a b : Int} (h1 : -2000000 ≤ a) (h2 : a ≤ 2000000) (h3 : -2000000 ≤ b) (h4 : b ≤ 2000000) : CtL PC 0 yX4_join cX4_join 5 (some .long) [vI 45, vL a, vL b] μ (fun r m => r = (a - b) ∧ m = μ) := by
  refine ct_intro [some (vI 45), some (vL a), none, some (vL b), none] RX4 (by decide) rfl XCo rfl (Nat.le_of_ble_eq_true rfl) (fun K hO => ?_)
  refine aw_iload_n hO dX4_join_0 rfl rfl ?_
  refine aw_tableIn (off := 119) (tgt := 120) hO dX4_join_1 (inRlit _) (by decide) (by decide) rfl rfl ?_
  refine aw_lload_n hO dX4_join_120 rfl rfl ?_
  refine aw_lload_n hO dX4_join_121 rfl rfl ?_
  refine aw_lsub hO dX4_join_122 rfl ?_
  refine aw_lret hO dX4_join_123 ?_
  exact ⟨_, rfl, rfl, rfl⟩
set_option maxHeartbeats 4000000 in
set_option maxRecDepth 100000 in
theorem ctC_join_4 (μ : Mm) {a b : Int} (h1 : -2000000 ≤ a) (h2 : a ≤ 2000000) (h3 : -2000000 ≤ b) (h4 : b ≤ 2000000) : CtL PC 0 yX4_join cX4_join 5 (some .long) [vI 42, vL a, vL b] μ (fun r m => r = (a * b) ∧ m = μ) := by
  refine ct_intro [some (vI 42), some (vL a), none, some (vL b), none] RX4 (by decide) rfl XCo rfl (Nat.le_of_ble_eq_true rfl) (fun K hO => ?_)
  refine aw_iload_n hO dX4_join_0 rfl rfl ?_
  refine aw_tableIn (off := 123) (tgt := 124) hO dX4_join_1 (inRlit _) (by decide) (by decide) rfl rfl ?_
  refine aw_lload_n hO dX4_join_124 rfl rfl ?_
  refine aw_lload_n hO dX4_join_125 rfl rfl ?_
  refine aw_lmul hO dX4_join_126 rfl ?_
  refine aw_lret hO dX4_join_127 ?_
  exact ⟨_, rfl, rfl, rfl⟩
set_option maxHeartbeats 4000000 in
set_option maxRecDepth 100000 in
theorem ctC_join_5 (μ : Mm) {a b : Int} (h1 : -2000000 ≤ a) (h2 : a ≤ 2000000) (h3 : -2000000 ≤ b) (h4 : b ≤ 2000000) : CtL PC 0 yX4_join cX4_join 5 (some .long) [vI 47, vL a, vL b] μ (fun r m => r = (if b = 0 then 0 else a.tdiv b) ∧ m = μ) := by
  refine ct_intro [some (vI 47), some (vL a), none, some (vL b), none] RX4 (by decide) rfl XCo rfl (Nat.le_of_ble_eq_true rfl) (fun K hO => ?_)
  refine aw_iload_n hO dX4_join_0 rfl rfl ?_
  refine aw_tableIn (off := 127) (tgt := 128) hO dX4_join_1 (inRlit _) (by decide) (by decide) rfl rfl ?_
  refine aw_lload_n hO dX4_join_128 rfl rfl ?_
  refine aw_lconst0 hO dX4_join_129 rfl ?_
  refine aw_lcmp hO dX4_join_130 rfl ⟨by omega, by omega⟩ ⟨by omega, by omega⟩ ?_
  refine aw_if_ne (tgt := 138) hO dX4_join_131 rfl rfl (sCmp_R _ _) (fun c131 => ?_) (fun c131 => ?_)
  · refine aw_lload_n hO dX4_join_138 rfl rfl ?_
    refine aw_lload_n hO dX4_join_139 rfl rfl ?_
    refine aw_ldiv hO dX4_join_140 rfl ⟨by omega, by omega⟩ ⟨by omega, by omega⟩ (fun e => c131 (sCmp_eq.mpr e)) ?_
    refine aw_lret hO dX4_join_141 ?_
    exact ⟨_, rfl, by have e := @sCmp_eq b 0; split <;> first | rfl | omega, rfl⟩
  · refine aw_lconst0 hO dX4_join_134 rfl ?_
    refine aw_goto (tgt := 141) hO dX4_join_135 rfl ?_
    refine aw_lret hO dX4_join_141 ?_
    exact ⟨_, rfl, by have e := @sCmp_eq b 0; split <;> first | rfl | omega, rfl⟩
set_option maxHeartbeats 4000000 in
set_option maxRecDepth 100000 in
theorem ctC_join_6 (μ : Mm) {a b : Int} (h1 : -2000000 ≤ a) (h2 : a ≤ 2000000) (h3 : -2000000 ≤ b) (h4 : b ≤ 2000000) : CtL PC 0 yX4_join cX4_join 5 (some .long) [vI 61, vL a, vL b] μ (fun r m => r = (if a = b then 1 else 0) ∧ m = μ) := by
  refine ct_intro [some (vI 61), some (vL a), none, some (vL b), none] RX4 (by decide) rfl XCo rfl (Nat.le_of_ble_eq_true rfl) (fun K hO => ?_)
  refine aw_iload_n hO dX4_join_0 rfl rfl ?_
  refine aw_tableIn (off := 141) (tgt := 142) hO dX4_join_1 (inRlit _) (by decide) (by decide) rfl rfl ?_
  refine aw_lload_n hO dX4_join_142 rfl rfl ?_
  refine aw_lload_n hO dX4_join_143 rfl rfl ?_
  refine aw_lcmp hO dX4_join_144 rfl ⟨by omega, by omega⟩ ⟨by omega, by omega⟩ ?_
  refine aw_if_ne (tgt := 152) hO dX4_join_145 rfl rfl (sCmp_R _ _) (fun c145 => ?_) (fun c145 => ?_)
  · refine aw_lconst0 hO dX4_join_152 rfl ?_
    refine aw_lret hO dX4_join_153 ?_
    exact ⟨_, rfl, by have e := @sCmp_eq a b; split <;> omega, rfl⟩
  · refine aw_lconst1 hO dX4_join_148 rfl ?_
    refine aw_goto (tgt := 153) hO dX4_join_149 rfl ?_
    refine aw_lret hO dX4_join_153 ?_
    exact ⟨_, rfl, by have e := @sCmp_eq a b; split <;> omega, rfl⟩
set_option maxHeartbeats 4000000 in
set_option maxRecDepth 100000 in
theorem ctC_join_7 (μ : Mm) {a b : Int} (h1 : -2000000 ≤ a) (h2 : a ≤ 2000000) (h3 : -2000000 ≤ b) (h4 : b ≤ 2000000) : CtL PC 0 yX4_join cX4_join 5 (some .long) [vI 60, vL a, vL b] μ (fun r m => r = (if a < b then 1 else 0) ∧ m = μ) := by
  refine ct_intro [some (vI 60), some (vL a), none, some (vL b), none] RX4 (by decide) rfl XCo rfl (Nat.le_of_ble_eq_true rfl) (fun K hO => ?_)
  refine aw_iload_n hO dX4_join_0 rfl rfl ?_
  refine aw_tableIn (off := 153) (tgt := 154) hO dX4_join_1 (inRlit _) (by decide) (by decide) rfl rfl ?_
  refine aw_lload_n hO dX4_join_154 rfl rfl ?_
  refine aw_lload_n hO dX4_join_155 rfl rfl ?_
  refine aw_lcmp hO dX4_join_156 rfl ⟨by omega, by omega⟩ ⟨by omega, by omega⟩ ?_
  refine aw_if_ge (tgt := 164) hO dX4_join_157 rfl rfl (sCmp_R _ _) (fun c157 => ?_) (fun c157 => ?_)
  · refine aw_lconst0 hO dX4_join_164 rfl ?_
    refine aw_lret hO dX4_join_165 ?_
    exact ⟨_, rfl, by have e := @sCmp_lt a b; split <;> omega, rfl⟩
  · refine aw_lconst1 hO dX4_join_160 rfl ?_
    refine aw_goto (tgt := 165) hO dX4_join_161 rfl ?_
    refine aw_lret hO dX4_join_165 ?_
    exact ⟨_, rfl, by have e := @sCmp_lt a b; split <;> omega, rfl⟩
set_option maxHeartbeats 4000000 in
set_option maxRecDepth 100000 in
theorem ctC_join_8 (μ : Mm) {a b : Int} (h1 : -2000000 ≤ a) (h2 : a ≤ 2000000) (h3 : -2000000 ≤ b) (h4 : b ≤ 2000000) : CtL PC 0 yX4_join cX4_join 5 (some .long) [vI 62, vL a, vL b] μ (fun r m => r = (if b < a then 1 else 0) ∧ m = μ) := by
  refine ct_intro [some (vI 62), some (vL a), none, some (vL b), none] RX4 (by decide) rfl XCo rfl (Nat.le_of_ble_eq_true rfl) (fun K hO => ?_)
  refine aw_iload_n hO dX4_join_0 rfl rfl ?_
  refine aw_tableIn (off := 165) (tgt := 166) hO dX4_join_1 (inRlit _) (by decide) (by decide) rfl rfl ?_
  refine aw_lload_n hO dX4_join_166 rfl rfl ?_
  refine aw_lload_n hO dX4_join_167 rfl rfl ?_
  refine aw_lcmp hO dX4_join_168 rfl ⟨by omega, by omega⟩ ⟨by omega, by omega⟩ ?_
  refine aw_if_le (tgt := 176) hO dX4_join_169 rfl rfl (sCmp_R _ _) (fun c169 => ?_) (fun c169 => ?_)
  · refine aw_lconst0 hO dX4_join_176 rfl ?_
    refine aw_lret hO dX4_join_177 ?_
    exact ⟨_, rfl, by have e := @sCmp_gt a b; split <;> omega, rfl⟩
  · refine aw_lconst1 hO dX4_join_172 rfl ?_
    refine aw_goto (tgt := 177) hO dX4_join_173 rfl ?_
    refine aw_lret hO dX4_join_177 ?_
    exact ⟨_, rfl, by have e := @sCmp_gt a b; split <;> omega, rfl⟩
set_option maxHeartbeats 4000000 in
set_option maxRecDepth 100000 in
theorem ctC_join_10 (μ : Mm) {a b : Int} (h1 : -2000000 ≤ a) (h2 : a ≤ 2000000) (h3 : -2000000 ≤ b) (h4 : b ≤ 2000000) : CtL PC 0 yX4_join cX4_join 5 (some .long) [vI 38, vL a, vL b] μ (fun r m => r = (lAnd a b) ∧ m = μ) := by
  refine ct_intro [some (vI 38), some (vL a), none, some (vL b), none] RX4 (by decide) rfl XCo rfl (Nat.le_of_ble_eq_true rfl) (fun K hO => ?_)
  refine aw_iload_n hO dX4_join_0 rfl rfl ?_
  refine aw_tableIn (off := 177) (tgt := 178) hO dX4_join_1 (inRlit _) (by decide) (by decide) rfl rfl ?_
  refine aw_lload_n hO dX4_join_178 rfl rfl ?_
  refine aw_lload_n hO dX4_join_179 rfl rfl ?_
  refine aw_land hO dX4_join_180 rfl ?_
  refine aw_lret hO dX4_join_181 ?_
  exact ⟨_, rfl, rfl, rfl⟩
set_option maxHeartbeats 4000000 in
set_option maxRecDepth 100000 in
theorem ctC_join_11 (μ : Mm) {a b : Int} (h1 : -2000000 ≤ a) (h2 : a ≤ 2000000) (h3 : -2000000 ≤ b) (h4 : b ≤ 2000000) : CtL PC 0 yX4_join cX4_join 5 (some .long) [vI 124, vL a, vL b] μ (fun r m => r = (lOr a b) ∧ m = μ) := by
  refine ct_intro [some (vI 124), some (vL a), none, some (vL b), none] RX4 (by decide) rfl XCo rfl (Nat.le_of_ble_eq_true rfl) (fun K hO => ?_)
  refine aw_iload_n hO dX4_join_0 rfl rfl ?_
  refine aw_tableOut (tgt := 182) hO dX4_join_1 (inRlit _) (by decide) rfl ?_
  refine aw_lload_n hO dX4_join_182 rfl rfl ?_
  refine aw_lload_n hO dX4_join_183 rfl rfl ?_
  refine aw_lor hO dX4_join_184 rfl ?_
  refine aw_lret hO dX4_join_185 ?_
  exact ⟨_, rfl, rfl, rfl⟩
theorem ctC_join (μ : Mm) {op a b : Int} (ho : op ≤ 8 ∨ op = 10 ∨ op = 11) (ho2 : 2 ≤ op) (h1 : -2000000 ≤ a) (h2 : a ≤ 2000000) (h3 : -2000000 ≤ b) (h4 : b ≤ 2000000) : CtL PC 0 yX4_join cX4_join 5 (some .long) [vI (sgn op), vL a, vL b] μ (fun r m => r = jn op a b ∧ m = μ) := by
  have hc : op = 2 ∨ op = 3 ∨ op = 4 ∨ op = 5 ∨ op = 6 ∨ op = 7 ∨ op = 8 ∨ op = 10 ∨ op = 11 := by omega
  rcases hc with rfl | rfl | rfl | rfl | rfl | rfl | rfl | rfl | rfl
  · exact ctC_join_2 μ h1 h2 h3 h4
  · exact ctC_join_3 μ h1 h2 h3 h4
  · exact ctC_join_4 μ h1 h2 h3 h4
  · exact ctC_join_5 μ h1 h2 h3 h4
  · exact ctC_join_6 μ h1 h2 h3 h4
  · exact ctC_join_7 μ h1 h2 h3 h4
  · exact ctC_join_8 μ h1 h2 h3 h4
  · exact ctC_join_10 μ h1 h2 h3 h4
  · exact ctC_join_11 μ h1 h2 h3 h4
theorem jn_rng {op a b : Int} (h1 : -2000000 ≤ a) (h2 : a ≤ 2000000) (h3 : -2000000 ≤ b) (h4 : b ≤ 2000000) : InL (jn op a b) := by
  have hm := mul_rng h1 h2 h3 h4
  have hd := tdiv_rng (b := b) h1 h2
  have hl : ∀ x : Int64, InL x.toInt := fun x => ⟨Int64.le_toInt x, by have := Int64.toInt_lt x; omega⟩
  have hA : InL (lAnd a b) := hl _
  have hO : InL (lOr a b) := hl _
  unfold InL at *
  unfold jn
  repeat' split
  all_goals omega
theorem dX4_worth_0 : decode cX4_worth 0 = .ok (.iconst 0, 1) := by decide +kernel
theorem dX4_worth_1 : decode cX4_worth 1 = .ok (.istore_n 2, 1) := by decide +kernel
theorem dX4_worth_2 : decode cX4_worth 2 = .ok (.iconst 0, 1) := by decide +kernel
theorem dX4_worth_3 : decode cX4_worth 3 = .ok (.istore_n 3, 1) := by decide +kernel
theorem dX4_worth_4 : decode cX4_worth 4 = .ok (.iload_n 3, 1) := by decide +kernel
theorem dX4_worth_5 : decode cX4_worth 5 = .ok (.aload_n 0, 1) := by decide +kernel
theorem dX4_worth_6 : decode cX4_worth 6 = .ok (.getfield 18, 3) := by decide +kernel
theorem dX4_worth_9 : decode cX4_worth 9 = .ok (.if_icmp .ge 217, 3) := by decide +kernel
theorem dX4_worth_12 : decode cX4_worth 12 = .ok (.aload_n 0, 1) := by decide +kernel
theorem dX4_worth_13 : decode cX4_worth 13 = .ok (.getfield 11, 3) := by decide +kernel
theorem dX4_worth_16 : decode cX4_worth 16 = .ok (.iload_n 3, 1) := by decide +kernel
theorem dX4_worth_17 : decode cX4_worth 17 = .ok (.iaload, 1) := by decide +kernel
theorem dX4_worth_18 : decode cX4_worth 18 = .ok (.istore 4, 2) := by decide +kernel
theorem dX4_worth_20 : decode cX4_worth 20 = .ok (.iload 4, 2) := by decide +kernel
theorem dX4_worth_22 : decode cX4_worth 22 = .ok (.sipush 11000, 3) := by decide +kernel
theorem dX4_worth_25 : decode cX4_worth 25 = .ok (.if_icmp .ge 50, 3) := by decide +kernel
theorem dX4_worth_28 : decode cX4_worth 28 = .ok (.iload 4, 2) := by decide +kernel
theorem dX4_worth_30 : decode cX4_worth 30 = .ok (.sipush 10000, 3) := by decide +kernel
theorem dX4_worth_33 : decode cX4_worth 33 = .ok (.isub, 1) := by decide +kernel
theorem dX4_worth_34 : decode cX4_worth 34 = .ok (.istore 5, 2) := by decide +kernel
theorem dX4_worth_36 : decode cX4_worth 36 = .ok (.iload_n 2, 1) := by decide +kernel
theorem dX4_worth_37 : decode cX4_worth 37 = .ok (.bipush 32, 2) := by decide +kernel
theorem dX4_worth_39 : decode cX4_worth 39 = .ok (.if_icmp .ge 33, 3) := by decide +kernel
theorem dX4_worth_42 : decode cX4_worth 42 = .ok (.iload 5, 2) := by decide +kernel
theorem dX4_worth_44 : decode cX4_worth 44 = .ok (.aload_n 1, 1) := by decide +kernel
theorem dX4_worth_45 : decode cX4_worth 45 = .ok (.arraylength, 1) := by decide +kernel
theorem dX4_worth_46 : decode cX4_worth 46 = .ok (.if_icmp .ge 26, 3) := by decide +kernel
theorem dX4_worth_49 : decode cX4_worth 49 = .ok (.aload_n 0, 1) := by decide +kernel
theorem dX4_worth_50 : decode cX4_worth 50 = .ok (.getfield 15, 3) := by decide +kernel
theorem dX4_worth_53 : decode cX4_worth 53 = .ok (.iload_n 2, 1) := by decide +kernel
theorem dX4_worth_54 : decode cX4_worth 54 = .ok (.iload 5, 2) := by decide +kernel
theorem dX4_worth_56 : decode cX4_worth 56 = .ok (.ifCond .ge 8, 3) := by decide +kernel
theorem dX4_worth_59 : decode cX4_worth 59 = .ok (.iload 4, 2) := by decide +kernel
theorem dX4_worth_61 : decode cX4_worth 61 = .ok (.goto 7, 3) := by decide +kernel
theorem dX4_worth_64 : decode cX4_worth 64 = .ok (.aload_n 1, 1) := by decide +kernel
theorem dX4_worth_65 : decode cX4_worth 65 = .ok (.iload 5, 2) := by decide +kernel
theorem dX4_worth_67 : decode cX4_worth 67 = .ok (.iaload, 1) := by decide +kernel
theorem dX4_worth_68 : decode cX4_worth 68 = .ok (.iastore, 1) := by decide +kernel
theorem dX4_worth_69 : decode cX4_worth 69 = .ok (.iinc 2 1, 3) := by decide +kernel
theorem dX4_worth_72 : decode cX4_worth 72 = .ok (.goto 148, 3) := by decide +kernel
theorem dX4_worth_75 : decode cX4_worth 75 = .ok (.iload_n 2, 1) := by decide +kernel
theorem dX4_worth_76 : decode cX4_worth 76 = .ok (.iconst 1, 1) := by decide +kernel
theorem dX4_worth_77 : decode cX4_worth 77 = .ok (.if_icmp .ge 5, 3) := by decide +kernel
theorem dX4_worth_80 : decode cX4_worth 80 = .ok (.iconst 0, 1) := by decide +kernel
theorem dX4_worth_81 : decode cX4_worth 81 = .ok (.ireturn, 1) := by decide +kernel
theorem dX4_worth_82 : decode cX4_worth 82 = .ok (.iload 4, 2) := by decide +kernel
theorem dX4_worth_84 : decode cX4_worth 84 = .ok (.sipush 12000, 3) := by decide +kernel
theorem dX4_worth_87 : decode cX4_worth 87 = .ok (.if_icmp .lt 41, 3) := by decide +kernel
theorem dX4_worth_90 : decode cX4_worth 90 = .ok (.iinc 2 (-1), 3) := by decide +kernel
theorem dX4_worth_93 : decode cX4_worth 93 = .ok (.aload_n 0, 1) := by decide +kernel
theorem dX4_worth_94 : decode cX4_worth 94 = .ok (.getfield 15, 3) := by decide +kernel
theorem dX4_worth_97 : decode cX4_worth 97 = .ok (.iload_n 2, 1) := by decide +kernel
theorem dX4_worth_98 : decode cX4_worth 98 = .ok (.iaload, 1) := by decide +kernel
theorem dX4_worth_99 : decode cX4_worth 99 = .ok (.ifCond .ne 24, 3) := by decide +kernel
theorem dX4_worth_102 : decode cX4_worth 102 = .ok (.iload 4, 2) := by decide +kernel
theorem dX4_worth_104 : decode cX4_worth 104 = .ok (.sipush 12000, 3) := by decide +kernel
theorem dX4_worth_107 : decode cX4_worth 107 = .ok (.isub, 1) := by decide +kernel
theorem dX4_worth_108 : decode cX4_worth 108 = .ok (.iload_n 3, 1) := by decide +kernel
theorem dX4_worth_109 : decode cX4_worth 109 = .ok (.if_icmp .le 14, 3) := by decide +kernel
theorem dX4_worth_112 : decode cX4_worth 112 = .ok (.iload 4, 2) := by decide +kernel
theorem dX4_worth_114 : decode cX4_worth 114 = .ok (.sipush 12000, 3) := by decide +kernel
theorem dX4_worth_117 : decode cX4_worth 117 = .ok (.isub, 1) := by decide +kernel
theorem dX4_worth_118 : decode cX4_worth 118 = .ok (.iconst 1, 1) := by decide +kernel
theorem dX4_worth_119 : decode cX4_worth 119 = .ok (.isub, 1) := by decide +kernel
theorem dX4_worth_120 : decode cX4_worth 120 = .ok (.goto 4, 3) := by decide +kernel
theorem dX4_worth_123 : decode cX4_worth 123 = .ok (.iload_n 3, 1) := by decide +kernel
theorem dX4_worth_124 : decode cX4_worth 124 = .ok (.istore_n 3, 1) := by decide +kernel
theorem dX4_worth_125 : decode cX4_worth 125 = .ok (.goto 95, 3) := by decide +kernel
theorem dX4_worth_128 : decode cX4_worth 128 = .ok (.iload 4, 2) := by decide +kernel
theorem dX4_worth_130 : decode cX4_worth 130 = .ok (.sipush 11059, 3) := by decide +kernel
theorem dX4_worth_133 : decode cX4_worth 133 = .ok (.if_icmp .ne 12, 3) := by decide +kernel
theorem dX4_worth_136 : decode cX4_worth 136 = .ok (.aload_n 0, 1) := by decide +kernel
theorem dX4_worth_137 : decode cX4_worth 137 = .ok (.getfield 15, 3) := by decide +kernel
theorem dX4_worth_140 : decode cX4_worth 140 = .ok (.iload_n 2, 1) := by decide +kernel
theorem dX4_worth_141 : decode cX4_worth 141 = .ok (.iconst 1, 1) := by decide +kernel
theorem dX4_worth_142 : decode cX4_worth 142 = .ok (.isub, 1) := by decide +kernel
theorem dX4_worth_143 : decode cX4_worth 143 = .ok (.iaload, 1) := by decide +kernel
theorem dX4_worth_144 : decode cX4_worth 144 = .ok (.ireturn, 1) := by decide +kernel
theorem dX4_worth_145 : decode cX4_worth 145 = .ok (.iload 4, 2) := by decide +kernel
theorem dX4_worth_147 : decode cX4_worth 147 = .ok (.sipush 11033, 3) := by decide +kernel
theorem dX4_worth_150 : decode cX4_worth 150 = .ok (.if_icmp .ne 24, 3) := by decide +kernel
theorem dX4_worth_153 : decode cX4_worth 153 = .ok (.aload_n 0, 1) := by decide +kernel
theorem dX4_worth_154 : decode cX4_worth 154 = .ok (.getfield 15, 3) := by decide +kernel
theorem dX4_worth_157 : decode cX4_worth 157 = .ok (.iload_n 2, 1) := by decide +kernel
theorem dX4_worth_158 : decode cX4_worth 158 = .ok (.iconst 1, 1) := by decide +kernel
theorem dX4_worth_159 : decode cX4_worth 159 = .ok (.isub, 1) := by decide +kernel
theorem dX4_worth_160 : decode cX4_worth 160 = .ok (.iconst 1, 1) := by decide +kernel
theorem dX4_worth_161 : decode cX4_worth 161 = .ok (.aload_n 0, 1) := by decide +kernel
theorem dX4_worth_162 : decode cX4_worth 162 = .ok (.getfield 15, 3) := by decide +kernel
theorem dX4_worth_165 : decode cX4_worth 165 = .ok (.iload_n 2, 1) := by decide +kernel
theorem dX4_worth_166 : decode cX4_worth 166 = .ok (.iconst 1, 1) := by decide +kernel
theorem dX4_worth_167 : decode cX4_worth 167 = .ok (.isub, 1) := by decide +kernel
theorem dX4_worth_168 : decode cX4_worth 168 = .ok (.iaload, 1) := by decide +kernel
theorem dX4_worth_169 : decode cX4_worth 169 = .ok (.isub, 1) := by decide +kernel
theorem dX4_worth_170 : decode cX4_worth 170 = .ok (.iastore, 1) := by decide +kernel
theorem dX4_worth_171 : decode cX4_worth 171 = .ok (.goto 49, 3) := by decide +kernel
theorem dX4_worth_174 : decode cX4_worth 174 = .ok (.iload_n 2, 1) := by decide +kernel
theorem dX4_worth_175 : decode cX4_worth 175 = .ok (.iconst 1, 1) := by decide +kernel
theorem dX4_worth_176 : decode cX4_worth 176 = .ok (.if_icmp .le 44, 3) := by decide +kernel
theorem dX4_worth_179 : decode cX4_worth 179 = .ok (.iinc 2 (-1), 3) := by decide +kernel
theorem dX4_worth_182 : decode cX4_worth 182 = .ok (.aload_n 0, 1) := by decide +kernel
theorem dX4_worth_183 : decode cX4_worth 183 = .ok (.getfield 15, 3) := by decide +kernel
theorem dX4_worth_186 : decode cX4_worth 186 = .ok (.iload_n 2, 1) := by decide +kernel
theorem dX4_worth_187 : decode cX4_worth 187 = .ok (.iconst 1, 1) := by decide +kernel
theorem dX4_worth_188 : decode cX4_worth 188 = .ok (.isub, 1) := by decide +kernel
theorem dX4_worth_189 : decode cX4_worth 189 = .ok (.iload 4, 2) := by decide +kernel
theorem dX4_worth_191 : decode cX4_worth 191 = .ok (.sipush 11000, 3) := by decide +kernel
theorem dX4_worth_194 : decode cX4_worth 194 = .ok (.isub, 1) := by decide +kernel
theorem dX4_worth_195 : decode cX4_worth 195 = .ok (.aload_n 0, 1) := by decide +kernel
theorem dX4_worth_196 : decode cX4_worth 196 = .ok (.getfield 15, 3) := by decide +kernel
theorem dX4_worth_199 : decode cX4_worth 199 = .ok (.iload_n 2, 1) := by decide +kernel
theorem dX4_worth_200 : decode cX4_worth 200 = .ok (.iconst 1, 1) := by decide +kernel
theorem dX4_worth_201 : decode cX4_worth 201 = .ok (.isub, 1) := by decide +kernel
theorem dX4_worth_202 : decode cX4_worth 202 = .ok (.iaload, 1) := by decide +kernel
theorem dX4_worth_203 : decode cX4_worth 203 = .ok (.i2l, 1) := by decide +kernel
theorem dX4_worth_204 : decode cX4_worth 204 = .ok (.aload_n 0, 1) := by decide +kernel
theorem dX4_worth_205 : decode cX4_worth 205 = .ok (.getfield 15, 3) := by decide +kernel
theorem dX4_worth_208 : decode cX4_worth 208 = .ok (.iload_n 2, 1) := by decide +kernel
theorem dX4_worth_209 : decode cX4_worth 209 = .ok (.iaload, 1) := by decide +kernel
theorem dX4_worth_210 : decode cX4_worth 210 = .ok (.i2l, 1) := by decide +kernel
theorem dX4_worth_211 : decode cX4_worth 211 = .ok (.invokestatic 32, 3) := by decide +kernel
theorem dX4_worth_214 : decode cX4_worth 214 = .ok (.ldc 36, 2) := by decide +kernel
theorem dX4_worth_216 : decode cX4_worth 216 = .ok (.invokestatic 37, 3) := by decide +kernel
theorem dX4_worth_219 : decode cX4_worth 219 = .ok (.iastore, 1) := by decide +kernel
theorem dX4_worth_220 : decode cX4_worth 220 = .ok (.iinc 3 1, 3) := by decide +kernel
theorem dX4_worth_223 : decode cX4_worth 223 = .ok (.goto (-219), 3) := by decide +kernel
theorem dX4_worth_226 : decode cX4_worth 226 = .ok (.iconst 0, 1) := by decide +kernel
theorem dX4_worth_227 : decode cX4_worth 227 = .ok (.ireturn, 1) := by decide +kernel
set_option maxHeartbeats 4000000 in
set_option maxRecDepth 100000 in
theorem ctC_4_worth (μ : Mm) {k : Nat} (hk : Lob k) {l : List Cl} (hl : LawC μ k l) (hlt : ∀ i, i < 6 → -1000000 ≤ μ.1 74 i ∧ μ.1 74 i ≤ 1000000) : CtE PC 1 yX4_worth cX4_worth 6 (some .int) [vR k, vR 74] μ (fun v m => (v = worthL (μ.1 74) l ∧ -1000520 ≤ v ∧ v ≤ 1000520) ∧ Fr (fun k' _ => k' = k + 2) μ m) := by
  refine ct_intro [some (vR k), some (vR 74), none, none, none, none] RX4 (by decide) rfl XCo rfl (Nat.le_of_ble_eq_true rfl) (fun K hO => ?_)
  have hkk : k < 23 ∧ 13 ≤ k := by rcases hk with rfl | rfl | rfl | rfl <;> decide
  obtain ⟨hz, hA, h240, hW⟩ := hl
  have hS74 : ¬ (74 = k + 2) := by omega
  have seg : ∀ (ts : List Tok) (i n : Nat) (s : List Int) (m : Mm), Fr (fun k' _ => k' = k + 2) μ m → Rep (m.1 (k + 2)) s → lim (1000000 + (i : Int)) s → s.length ≤ 31 → okL ts s.length n → At (μ.1 (k + 1)) i (ts.map enc) → i + ts.length < (cmpL 0 l).length → (∀ (m' : Mm) (s' : List Int), s' = evsC (μ.1 74) ts s → Fr (fun k' _ => k' = k + 2) μ m' → Rep (m'.1 (k + 2)) s' → lim (1000000 + ((i + ts.length : Nat) : Int)) s' → s'.length = n → AW K 4 [some (vR k), some (vR 74), some (vI ((s'.length : Nat) : Int)), some (vI ((i + ts.length : Nat) : Int)), none, none] [] m') → AW K 4 [some (vR k), some (vR 74), some (vI ((s.length : Nat) : Int)), some (vI ((i : Nat) : Int)), none, none] [] m := by
    intro ts
    induction ts with
    | nil =>
      intro i n s m hF hR hL hsl hok _ _ kk
      exact kk m s rfl hF hR hL hok
    | cons t ts ih =>
      intro i n s m hF hR hL hsl hok hAt hi kk
      simp only [List.length_cons] at hi
      obtain ⟨hAt1, hAt2⟩ := hAt
      obtain ⟨ht, hk0, hk9, hk2, hok2⟩ := hok
      have hcell : m.1 (k + 1) i = enc t := by rw [hF.1 (k + 1) i (by omega)]; exact hAt1
      have hsz : m.1 k 2 = (((cmpL 0 l).length : Nat) : Int) := by rw [hF.1 k 2 (by omega)]; exact hz
      have hltm : ∀ j, m.1 74 j = μ.1 74 j := fun j => hF.1 74 j hS74
      by_cases h0 : t.1 = 0
      · have hev : enc t = t.2 := by unfold enc; rw [if_pos h0]
        have htr : 0 ≤ t.2 ∧ t.2 ≤ 9999 := by unfold tokOk at ht; omega
        have hn31 := hk0 (Or.inl h0)
        rw [if_pos (Or.inl h0)] at hok2
        refine aw_iload_n hO dX4_worth_4 rfl rfl ?_
        refine aw_aload_n hO dX4_worth_5 rfl rfl ?_
        refine aw_get (f := 2) hO dX4_worth_6 rfl okX4 (by decide) (lw_t1 122 rfl rfl) hk.o.1 hk.o.2 rfl rfl ?_
        refine aw_cg hsz ?_
        refine aw_icmp_ge (tgt := 226) hO dX4_worth_9 rfl rfl (inRn (by omega)) (inRn (by omega)) (fun c9 => ?_) (fun c9 => ?_)
        · exact absurd c9 (by omega)
        · refine aw_aload_n hO dX4_worth_12 rfl rfl ?_
          refine aw_get (f := 0) hO dX4_worth_13 rfl okX4 (by decide) (lw_t1 120 rfl rfl) hk.o.1 hk.o.2 rfl rfl ?_
          refine aw_iload_n hO dX4_worth_16 rfl rfl ?_
          refine aw_ialdn (N := 240) (i := i) hO dX4_worth_17 rfl hk.a.1 hk.a.2 (by decide) rfl (by omega) ?_
          refine aw_cg (hcell.trans hev) ?_
          refine aw_istore (ls' := [some (vR k), some (vR 74), some (vI ((s.length : Nat) : Int)), some (vI ((i : Nat) : Int)), some (vI t.2), none]) hO dX4_worth_18 rfl (Nat.le_of_ble_eq_true rfl) rfl rfl ?_
          refine aw_iload hO dX4_worth_20 rfl rfl ?_
          refine aw_sipush hO dX4_worth_22 rfl (by decide) (by decide) ?_
          refine aw_icmp_ge (tgt := 75) hO dX4_worth_25 rfl rfl ⟨by omega, by omega⟩ (inRlit _) (fun c25 => ?_) (fun c25 => ?_)
          · exact absurd c25 (by omega)
          · refine aw_iload hO dX4_worth_28 rfl rfl ?_
            refine aw_sipush hO dX4_worth_30 rfl (by decide) (by decide) ?_
            refine aw_isub hO dX4_worth_33 rfl ?_
            refine aw_istore (ls' := [some (vR k), some (vR 74), some (vI ((s.length : Nat) : Int)), some (vI ((i : Nat) : Int)), some (vI t.2), some (vI (t.2 - 10000))]) hO dX4_worth_34 rfl (Nat.le_of_ble_eq_true rfl) rfl rfl ?_
            refine aw_iload_n hO dX4_worth_36 rfl rfl ?_
            refine aw_bipush hO dX4_worth_37 rfl (by decide) (by decide) ?_
            refine aw_icmp_ge (tgt := 72) hO dX4_worth_39 rfl rfl (inRn (by omega)) (inRlit _) (fun c39 => ?_) (fun c39 => ?_)
            · exact absurd c39 (by omega)
            · refine aw_iload hO dX4_worth_42 rfl rfl ?_
              refine aw_aload_n hO dX4_worth_44 rfl rfl ?_
              refine aw_alen (N := 6) hO dX4_worth_45 rfl (by decide) rfl ?_
              refine aw_cg (show ((6 : Nat) : Int) = 6 from rfl) ?_
              refine aw_icmp_ge (tgt := 72) hO dX4_worth_46 rfl rfl ⟨by omega, by omega⟩ (inRlit _) (fun c46 => ?_) (fun c46 => ?_)
              · exact absurd c46 (by omega)
              · refine aw_aload_n hO dX4_worth_49 rfl rfl ?_
                refine aw_get (f := 1) hO dX4_worth_50 rfl okX4 (by decide) (lw_t1 121 rfl rfl) hk.o.1 hk.o.2 rfl rfl ?_
                refine aw_iload_n hO dX4_worth_53 rfl rfl ?_
                refine aw_iload hO dX4_worth_54 rfl rfl ?_
                refine aw_if_ge (tgt := 64) hO dX4_worth_56 rfl rfl ⟨by omega, by omega⟩ (fun c56 => ?_) (fun c56 => ?_)
                · exact absurd c56 (by omega)
                · refine aw_iload hO dX4_worth_59 rfl rfl ?_
                  refine aw_goto (tgt := 68) hO dX4_worth_61 rfl ?_
                  refine aw_iastn (N := 32) (i := s.length) hO dX4_worth_68 rfl hk.b.1 hk.b.2 (by decide) rfl (by omega) ?_
                  refine aw_mm (fun μ1 e_μ1 => ?_)
                  have hF_μ1 : Fr (fun k' _ => k' = k + 2) μ μ1 := by rw [e_μ1]; exact hF.st rfl _
                  refine aw_iinc (ls' := [some (vR k), some (vR 74), some (vI (((s.length : Nat) : Int) + 1)), some (vI ((i : Nat) : Int)), some (vI t.2), some (vI (t.2 - 10000))]) hO dX4_worth_69 rfl rfl rfl rfl ?_
                  refine aw_lsq (ls' := [some (vR k), some (vR 74), some (vI (((s.length + 1) : Nat) : Int)), some (vI ((i : Nat) : Int)), some (vI t.2), some (vI (t.2 - 10000))]) rfl ?_
                  refine aw_goto (tgt := 220) hO dX4_worth_72 rfl ?_
                  refine aw_iinc (ls' := [some (vR k), some (vR 74), some (vI (((s.length + 1) : Nat) : Int)), some (vI (((i : Nat) : Int) + 1)), some (vI t.2), some (vI (t.2 - 10000))]) hO dX4_worth_220 rfl rfl rfl rfl ?_
                  refine aw_lsq (ls' := [some (vR k), some (vR 74), some (vI (((s.length + 1) : Nat) : Int)), some (vI (((i + 1) : Nat) : Int)), some (vI t.2), some (vI (t.2 - 10000))]) rfl ?_
                  refine aw_goto (tgt := 4) hO dX4_worth_223 rfl ?_
                  refine aw_fg (ls' := [some (vR k), some (vR 74), some (vI (((s.length + 1) : Nat) : Int)), some (vI (((i + 1) : Nat) : Int)), none, none]) ⟨rfl, rfl, rfl, rfl, trivial⟩ ?_
                  refine aw_lsq (ls' := [some (vR k), some (vR 74), some (vI (((t.2 :: s).length : Nat) : Int)), some (vI ((i + 1 : Nat) : Int)), none, none]) (by rw [show ((((s.length + 1) : Nat) : Int) : Int) = (((t.2 :: s).length : Nat) : Int) from by first | rfl | (simp only [List.length_cons]; omega)]) ?_
                  refine ih (i + 1) n (t.2 :: s) μ1 hF_μ1 (⟨by rw [e_μ1, mst_eq], hR.of (fun j hj => by rw [e_μ1, mst_ni (by omega)])⟩) ((hL.mono (by omega)).cons (by omega) (by omega)) (by simp only [List.length_cons] at *; omega) (hok2) hAt2 (by omega) (fun m' s' e hF' hR' hL' hn => ?_)
                  have := kk m' s' (by rw [e]; exact (show evsC _ ts _ = evsC _ ts (ev1C _ _ t) by unfold ev1C; rw [if_pos h0])) hF' hR' (hL'.mono (by simp only [List.length_cons]; omega)) hn
                  rw [show i + (t :: ts).length = i + 1 + ts.length by simp only [List.length_cons]; omega] at this
                  exact this
      by_cases h1 : t.1 = 1
      · have hev : enc t = 10000 + t.2 := by unfold enc; rw [if_neg h0, if_pos h1]
        have htr : 0 ≤ t.2 ∧ t.2 ≤ 5 := by unfold tokOk at ht; omega
        have hn31 := hk0 (Or.inr h1)
        rw [if_pos (Or.inr h1)] at hok2
        have hlv := hlt t.2.toNat (by omega)
        refine aw_iload_n hO dX4_worth_4 rfl rfl ?_
        refine aw_aload_n hO dX4_worth_5 rfl rfl ?_
        refine aw_get (f := 2) hO dX4_worth_6 rfl okX4 (by decide) (lw_t1 122 rfl rfl) hk.o.1 hk.o.2 rfl rfl ?_
        refine aw_cg hsz ?_
        refine aw_icmp_ge (tgt := 226) hO dX4_worth_9 rfl rfl (inRn (by omega)) (inRn (by omega)) (fun c9 => ?_) (fun c9 => ?_)
        · exact absurd c9 (by omega)
        · refine aw_aload_n hO dX4_worth_12 rfl rfl ?_
          refine aw_get (f := 0) hO dX4_worth_13 rfl okX4 (by decide) (lw_t1 120 rfl rfl) hk.o.1 hk.o.2 rfl rfl ?_
          refine aw_iload_n hO dX4_worth_16 rfl rfl ?_
          refine aw_ialdn (N := 240) (i := i) hO dX4_worth_17 rfl hk.a.1 hk.a.2 (by decide) rfl (by omega) ?_
          refine aw_cg (hcell.trans hev) ?_
          refine aw_istore (ls' := [some (vR k), some (vR 74), some (vI ((s.length : Nat) : Int)), some (vI ((i : Nat) : Int)), some (vI (10000 + t.2)), none]) hO dX4_worth_18 rfl (Nat.le_of_ble_eq_true rfl) rfl rfl ?_
          refine aw_iload hO dX4_worth_20 rfl rfl ?_
          refine aw_sipush hO dX4_worth_22 rfl (by decide) (by decide) ?_
          refine aw_icmp_ge (tgt := 75) hO dX4_worth_25 rfl rfl ⟨by omega, by omega⟩ (inRlit _) (fun c25 => ?_) (fun c25 => ?_)
          · exact absurd c25 (by omega)
          · refine aw_iload hO dX4_worth_28 rfl rfl ?_
            refine aw_sipush hO dX4_worth_30 rfl (by decide) (by decide) ?_
            refine aw_isub hO dX4_worth_33 rfl ?_
            refine aw_istore (ls' := [some (vR k), some (vR 74), some (vI ((s.length : Nat) : Int)), some (vI ((i : Nat) : Int)), some (vI (10000 + t.2)), some (vI ((10000 + t.2) - 10000))]) hO dX4_worth_34 rfl (Nat.le_of_ble_eq_true rfl) rfl rfl ?_
            refine aw_iload_n hO dX4_worth_36 rfl rfl ?_
            refine aw_bipush hO dX4_worth_37 rfl (by decide) (by decide) ?_
            refine aw_icmp_ge (tgt := 72) hO dX4_worth_39 rfl rfl (inRn (by omega)) (inRlit _) (fun c39 => ?_) (fun c39 => ?_)
            · exact absurd c39 (by omega)
            · refine aw_iload hO dX4_worth_42 rfl rfl ?_
              refine aw_aload_n hO dX4_worth_44 rfl rfl ?_
              refine aw_alen (N := 6) hO dX4_worth_45 rfl (by decide) rfl ?_
              refine aw_cg (show ((6 : Nat) : Int) = 6 from rfl) ?_
              refine aw_icmp_ge (tgt := 72) hO dX4_worth_46 rfl rfl ⟨by omega, by omega⟩ (inRlit _) (fun c46 => ?_) (fun c46 => ?_)
              · exact absurd c46 (by omega)
              · refine aw_aload_n hO dX4_worth_49 rfl rfl ?_
                refine aw_get (f := 1) hO dX4_worth_50 rfl okX4 (by decide) (lw_t1 121 rfl rfl) hk.o.1 hk.o.2 rfl rfl ?_
                refine aw_iload_n hO dX4_worth_53 rfl rfl ?_
                refine aw_iload hO dX4_worth_54 rfl rfl ?_
                refine aw_if_ge (tgt := 64) hO dX4_worth_56 rfl rfl ⟨by omega, by omega⟩ (fun c56 => ?_) (fun c56 => ?_)
                · refine aw_aload_n hO dX4_worth_64 rfl rfl ?_
                  refine aw_iload hO dX4_worth_65 rfl rfl ?_
                  refine aw_ialdn (N := 6) (i := t.2.toNat) hO dX4_worth_67 rfl (by decide) rfl (by decide) (by omega) (by omega) ?_
                  refine aw_cg (hltm _) ?_
                  refine aw_iastn (N := 32) (i := s.length) hO dX4_worth_68 rfl hk.b.1 hk.b.2 (by decide) rfl (by omega) ?_
                  refine aw_mm (fun μ2 e_μ2 => ?_)
                  have hF_μ2 : Fr (fun k' _ => k' = k + 2) μ μ2 := by rw [e_μ2]; exact hF.st rfl _
                  refine aw_iinc (ls' := [some (vR k), some (vR 74), some (vI (((s.length : Nat) : Int) + 1)), some (vI ((i : Nat) : Int)), some (vI (10000 + t.2)), some (vI ((10000 + t.2) - 10000))]) hO dX4_worth_69 rfl rfl rfl rfl ?_
                  refine aw_lsq (ls' := [some (vR k), some (vR 74), some (vI (((s.length + 1) : Nat) : Int)), some (vI ((i : Nat) : Int)), some (vI (10000 + t.2)), some (vI ((10000 + t.2) - 10000))]) rfl ?_
                  refine aw_goto (tgt := 220) hO dX4_worth_72 rfl ?_
                  refine aw_iinc (ls' := [some (vR k), some (vR 74), some (vI (((s.length + 1) : Nat) : Int)), some (vI (((i : Nat) : Int) + 1)), some (vI (10000 + t.2)), some (vI ((10000 + t.2) - 10000))]) hO dX4_worth_220 rfl rfl rfl rfl ?_
                  refine aw_lsq (ls' := [some (vR k), some (vR 74), some (vI (((s.length + 1) : Nat) : Int)), some (vI (((i + 1) : Nat) : Int)), some (vI (10000 + t.2)), some (vI ((10000 + t.2) - 10000))]) rfl ?_
                  refine aw_goto (tgt := 4) hO dX4_worth_223 rfl ?_
                  refine aw_fg (ls' := [some (vR k), some (vR 74), some (vI (((s.length + 1) : Nat) : Int)), some (vI (((i + 1) : Nat) : Int)), none, none]) ⟨rfl, rfl, rfl, rfl, trivial⟩ ?_
                  refine aw_lsq (ls' := [some (vR k), some (vR 74), some (vI (((μ.1 74 t.2.toNat :: s).length : Nat) : Int)), some (vI ((i + 1 : Nat) : Int)), none, none]) (by rw [show ((((s.length + 1) : Nat) : Int) : Int) = (((μ.1 74 t.2.toNat :: s).length : Nat) : Int) from by first | rfl | (simp only [List.length_cons]; omega)]) ?_
                  refine ih (i + 1) n (μ.1 74 t.2.toNat :: s) μ2 hF_μ2 (⟨by rw [e_μ2, mst_eq], hR.of (fun j hj => by rw [e_μ2, mst_ni (by omega)])⟩) ((hL.mono (by omega)).cons (by omega) (by omega)) (by simp only [List.length_cons] at *; omega) (hok2) hAt2 (by omega) (fun m' s' e hF' hR' hL' hn => ?_)
                  have := kk m' s' (by rw [e]; exact (show evsC _ ts _ = evsC _ ts (ev1C _ _ t) by unfold ev1C; rw [if_neg h0, if_pos h1])) hF' hR' (hL'.mono (by simp only [List.length_cons]; omega)) hn
                  rw [show i + (t :: ts).length = i + 1 + ts.length by simp only [List.length_cons]; omega] at this
                  exact this
                · exact absurd c56 (by omega)
      have hop : 2 ≤ t.1 ∧ t.1 ≤ 11 := by unfold tokOk at ht; omega
      have hev : enc t = 11000 + sgn t.1 := by unfold enc; rw [if_neg h0, if_neg h1]
      have hsg := sgn_rng t.1
      rw [if_neg (fun q => q.elim h0 h1)] at hok2
      by_cases h9 : t.1 = 9
      · have hev : enc t = 11033 := by rw [hev, h9]; rfl
        rw [if_pos h9] at hok2
        have hn1 := hk9 h9
        match s, hR, hL, hsl, hn1, hok2, kk with
        | a :: r, hR, hL, hsl, hn1, hok2, kk =>
          have ha := hL a List.mem_cons_self
          have hr31 : r.length < 32 := by simp only [List.length_cons] at hsl; omega
          refine aw_iload_n hO dX4_worth_4 rfl rfl ?_
          refine aw_aload_n hO dX4_worth_5 rfl rfl ?_
          refine aw_get (f := 2) hO dX4_worth_6 rfl okX4 (by decide) (lw_t1 122 rfl rfl) hk.o.1 hk.o.2 rfl rfl ?_
          refine aw_cg hsz ?_
          refine aw_icmp_ge (tgt := 226) hO dX4_worth_9 rfl rfl (inRn (by omega)) (inRn (by omega)) (fun c9 => ?_) (fun c9 => ?_)
          · exact absurd c9 (by omega)
          · refine aw_aload_n hO dX4_worth_12 rfl rfl ?_
            refine aw_get (f := 0) hO dX4_worth_13 rfl okX4 (by decide) (lw_t1 120 rfl rfl) hk.o.1 hk.o.2 rfl rfl ?_
            refine aw_iload_n hO dX4_worth_16 rfl rfl ?_
            refine aw_ialdn (N := 240) (i := i) hO dX4_worth_17 rfl hk.a.1 hk.a.2 (by decide) rfl (by omega) ?_
            refine aw_cg (hcell.trans hev) ?_
            refine aw_istore (ls' := [some (vR k), some (vR 74), some (vI (((a :: r).length : Nat) : Int)), some (vI ((i : Nat) : Int)), some (vI 11033), none]) hO dX4_worth_18 rfl (Nat.le_of_ble_eq_true rfl) rfl rfl ?_
            refine aw_iload hO dX4_worth_20 rfl rfl ?_
            refine aw_sipush hO dX4_worth_22 rfl (by decide) (by decide) ?_
            refine aw_icmp_ge (tgt := 75) hO dX4_worth_25 rfl rfl (inRlit _) (inRlit _) (fun c25 => ?_) (fun c25 => ?_)
            · refine aw_iload_n hO dX4_worth_75 rfl rfl ?_
              refine aw_iconst hO dX4_worth_76 rfl ?_
              refine aw_icmp_ge (tgt := 82) hO dX4_worth_77 rfl rfl (inRn (by simp only [List.length_cons]; omega)) (inRlit _) (fun c77 => ?_) (fun c77 => ?_)
              · refine aw_iload hO dX4_worth_82 rfl rfl ?_
                refine aw_sipush hO dX4_worth_84 rfl (by decide) (by decide) ?_
                refine aw_icmp_lt (tgt := 128) hO dX4_worth_87 rfl rfl (inRlit _) (inRlit _) (fun c87 => ?_) (fun c87 => ?_)
                · refine aw_iload hO dX4_worth_128 rfl rfl ?_
                  refine aw_sipush hO dX4_worth_130 rfl (by decide) (by decide) ?_
                  refine aw_icmp_ne (tgt := 145) hO dX4_worth_133 rfl rfl (inRlit _) (inRlit _) (fun c133 => ?_) (fun c133 => ?_)
                  · refine aw_iload hO dX4_worth_145 rfl rfl ?_
                    refine aw_sipush hO dX4_worth_147 rfl (by decide) (by decide) ?_
                    refine aw_icmp_ne (tgt := 174) hO dX4_worth_150 rfl rfl (inRlit _) (inRlit _) (fun c150 => ?_) (fun c150 => ?_)
                    · exact absurd c150 (by omega)
                    · refine aw_aload_n hO dX4_worth_153 rfl rfl ?_
                      refine aw_get (f := 1) hO dX4_worth_154 rfl okX4 (by decide) (lw_t1 121 rfl rfl) hk.o.1 hk.o.2 rfl rfl ?_
                      refine aw_iload_n hO dX4_worth_157 rfl rfl ?_
                      refine aw_iconst hO dX4_worth_158 rfl ?_
                      refine aw_isub hO dX4_worth_159 rfl ?_
                      refine aw_iconst hO dX4_worth_160 rfl ?_
                      refine aw_aload_n hO dX4_worth_161 rfl rfl ?_
                      refine aw_get (f := 1) hO dX4_worth_162 rfl okX4 (by decide) (lw_t1 121 rfl rfl) hk.o.1 hk.o.2 rfl rfl ?_
                      refine aw_iload_n hO dX4_worth_165 rfl rfl ?_
                      refine aw_iconst hO dX4_worth_166 rfl ?_
                      refine aw_isub hO dX4_worth_167 rfl ?_
                      refine aw_ialdn (N := 32) (i := r.length) hO dX4_worth_168 rfl hk.b.1 hk.b.2 (by decide) (by simp only [List.length_cons]; omega) (by omega) ?_
                      refine aw_cg hR.1 ?_
                      refine aw_isub hO dX4_worth_169 rfl ?_
                      refine aw_iastn (N := 32) (i := r.length) hO dX4_worth_170 rfl hk.b.1 hk.b.2 (by decide) (by simp only [List.length_cons]; omega) (by omega) ?_
                      refine aw_mm (fun μ3 e_μ3 => ?_)
                      have hF_μ3 : Fr (fun k' _ => k' = k + 2) μ μ3 := by rw [e_μ3]; exact hF.st rfl _
                      refine aw_goto (tgt := 220) hO dX4_worth_171 rfl ?_
                      refine aw_iinc (ls' := [some (vR k), some (vR 74), some (vI (((a :: r).length : Nat) : Int)), some (vI (((i : Nat) : Int) + 1)), some (vI 11033), none]) hO dX4_worth_220 rfl rfl rfl rfl ?_
                      refine aw_lsq (ls' := [some (vR k), some (vR 74), some (vI (((a :: r).length : Nat) : Int)), some (vI (((i + 1) : Nat) : Int)), some (vI 11033), none]) rfl ?_
                      refine aw_goto (tgt := 4) hO dX4_worth_223 rfl ?_
                      refine aw_fg (ls' := [some (vR k), some (vR 74), some (vI (((a :: r).length : Nat) : Int)), some (vI (((i + 1) : Nat) : Int)), none, none]) ⟨rfl, rfl, rfl, rfl, trivial⟩ ?_
                      refine aw_lsq (ls' := [some (vR k), some (vR 74), some (vI ((((1 - a) :: r).length : Nat) : Int)), some (vI ((i + 1 : Nat) : Int)), none, none]) (by rw [show ((((a :: r).length : Nat) : Int) : Int) = ((((1 - a) :: r).length : Nat) : Int) from by first | rfl | (simp only [List.length_cons]; omega)]) ?_
                      refine ih (i + 1) n ((1 - a) :: r) μ3 hF_μ3 (⟨by rw [e_μ3, mst_eq], hR.2.of (fun j hj => by rw [e_μ3, mst_ni (by omega)])⟩) (lim.cons (fun x hx => by have := hL x (List.mem_cons_of_mem _ hx); omega) (by omega) (by omega)) (by simp only [List.length_cons] at *; omega) (hok2) hAt2 (by omega) (fun m' s' e hF' hR' hL' hn => ?_)
                      have := kk m' s' (by rw [e]; exact (show evsC _ ts _ = evsC _ ts (ev1C _ _ t) by unfold ev1C; rw [if_neg h0, if_neg h1, if_pos h9])) hF' hR' (hL'.mono (by simp only [List.length_cons]; omega)) hn
                      rw [show i + (t :: ts).length = i + 1 + ts.length by simp only [List.length_cons]; omega] at this
                      exact this
                  · exact absurd c133 (by omega)
                · exact absurd c87 (by omega)
              · exact absurd c77 (by simp only [List.length_cons]; omega)
            · exact absurd c25 (by omega)
      rw [if_neg h9] at hok2
      have hn2 := hk2 ⟨hop.1, h9⟩
      match s, hR, hL, hsl, hn2, hok2, kk with
      | [x], _, _, _, hn2, _, _ => exact absurd hn2 (by simp)
      | b :: a :: r, hR, hL, hsl, hn2, hok2, kk =>
        have ha := hL a (List.mem_cons_of_mem _ List.mem_cons_self)
        have hb := hL b List.mem_cons_self
        have hr31 : r.length + 1 < 32 := by simp only [List.length_cons] at hsl; omega
        have hne : sgn t.1 ≠ 33 := by unfold sgn; (repeat' split) <;> omega
        have hjr := jn_rng (op := t.1) (a := a) (b := b) (by omega) (by omega) (by omega) (by omega)
        have hwr := wkC_rng t.1 a b
        refine aw_iload_n hO dX4_worth_4 rfl rfl ?_
        refine aw_aload_n hO dX4_worth_5 rfl rfl ?_
        refine aw_get (f := 2) hO dX4_worth_6 rfl okX4 (by decide) (lw_t1 122 rfl rfl) hk.o.1 hk.o.2 rfl rfl ?_
        refine aw_cg hsz ?_
        refine aw_icmp_ge (tgt := 226) hO dX4_worth_9 rfl rfl (inRn (by omega)) (inRn (by omega)) (fun c9 => ?_) (fun c9 => ?_)
        · exact absurd c9 (by omega)
        · refine aw_aload_n hO dX4_worth_12 rfl rfl ?_
          refine aw_get (f := 0) hO dX4_worth_13 rfl okX4 (by decide) (lw_t1 120 rfl rfl) hk.o.1 hk.o.2 rfl rfl ?_
          refine aw_iload_n hO dX4_worth_16 rfl rfl ?_
          refine aw_ialdn (N := 240) (i := i) hO dX4_worth_17 rfl hk.a.1 hk.a.2 (by decide) rfl (by omega) ?_
          refine aw_cg (hcell.trans hev) ?_
          refine aw_istore (ls' := [some (vR k), some (vR 74), some (vI (((b :: a :: r).length : Nat) : Int)), some (vI ((i : Nat) : Int)), some (vI (11000 + sgn t.1)), none]) hO dX4_worth_18 rfl (Nat.le_of_ble_eq_true rfl) rfl rfl ?_
          refine aw_iload hO dX4_worth_20 rfl rfl ?_
          refine aw_sipush hO dX4_worth_22 rfl (by decide) (by decide) ?_
          refine aw_icmp_ge (tgt := 75) hO dX4_worth_25 rfl rfl ⟨by omega, by omega⟩ (inRlit _) (fun c25 => ?_) (fun c25 => ?_)
          · refine aw_iload_n hO dX4_worth_75 rfl rfl ?_
            refine aw_iconst hO dX4_worth_76 rfl ?_
            refine aw_icmp_ge (tgt := 82) hO dX4_worth_77 rfl rfl (inRn (by simp only [List.length_cons]; omega)) (inRlit _) (fun c77 => ?_) (fun c77 => ?_)
            · refine aw_iload hO dX4_worth_82 rfl rfl ?_
              refine aw_sipush hO dX4_worth_84 rfl (by decide) (by decide) ?_
              refine aw_icmp_lt (tgt := 128) hO dX4_worth_87 rfl rfl ⟨by omega, by omega⟩ (inRlit _) (fun c87 => ?_) (fun c87 => ?_)
              · refine aw_iload hO dX4_worth_128 rfl rfl ?_
                refine aw_sipush hO dX4_worth_130 rfl (by decide) (by decide) ?_
                refine aw_icmp_ne (tgt := 145) hO dX4_worth_133 rfl rfl ⟨by omega, by omega⟩ (inRlit _) (fun c133 => ?_) (fun c133 => ?_)
                · refine aw_iload hO dX4_worth_145 rfl rfl ?_
                  refine aw_sipush hO dX4_worth_147 rfl (by decide) (by decide) ?_
                  refine aw_icmp_ne (tgt := 174) hO dX4_worth_150 rfl rfl ⟨by omega, by omega⟩ (inRlit _) (fun c150 => ?_) (fun c150 => ?_)
                  · refine aw_iload_n hO dX4_worth_174 rfl rfl ?_
                    refine aw_iconst hO dX4_worth_175 rfl ?_
                    refine aw_icmp_le (tgt := 220) hO dX4_worth_176 rfl rfl (inRn (by simp only [List.length_cons]; omega)) (inRlit _) (fun c176 => ?_) (fun c176 => ?_)
                    · exact absurd c176 (by simp only [List.length_cons]; omega)
                    · refine aw_iinc (ls' := [some (vR k), some (vR 74), some (vI ((((b :: a :: r).length : Nat) : Int) + (-1))), some (vI ((i : Nat) : Int)), some (vI (11000 + sgn t.1)), none]) hO dX4_worth_179 rfl rfl rfl rfl ?_
                      refine aw_aload_n hO dX4_worth_182 rfl rfl ?_
                      refine aw_get (f := 1) hO dX4_worth_183 rfl okX4 (by decide) (lw_t1 121 rfl rfl) hk.o.1 hk.o.2 rfl rfl ?_
                      refine aw_iload_n hO dX4_worth_186 rfl rfl ?_
                      refine aw_iconst hO dX4_worth_187 rfl ?_
                      refine aw_isub hO dX4_worth_188 rfl ?_
                      refine aw_iload hO dX4_worth_189 rfl rfl ?_
                      refine aw_sipush hO dX4_worth_191 rfl (by decide) (by decide) ?_
                      refine aw_isub hO dX4_worth_194 rfl ?_
                      refine aw_aload_n hO dX4_worth_195 rfl rfl ?_
                      refine aw_get (f := 1) hO dX4_worth_196 rfl okX4 (by decide) (lw_t1 121 rfl rfl) hk.o.1 hk.o.2 rfl rfl ?_
                      refine aw_iload_n hO dX4_worth_199 rfl rfl ?_
                      refine aw_iconst hO dX4_worth_200 rfl ?_
                      refine aw_isub hO dX4_worth_201 rfl ?_
                      refine aw_ialdn (N := 32) (i := r.length) hO dX4_worth_202 rfl hk.b.1 hk.b.2 (by decide) (by simp only [List.length_cons]; omega) (by omega) ?_
                      refine aw_cg hR.2.1 ?_
                      refine aw_i2l hO dX4_worth_203 rfl ⟨by omega, by omega⟩ ?_
                      refine aw_aload_n hO dX4_worth_204 rfl rfl ?_
                      refine aw_get (f := 1) hO dX4_worth_205 rfl okX4 (by decide) (lw_t1 121 rfl rfl) hk.o.1 hk.o.2 rfl rfl ?_
                      refine aw_iload_n hO dX4_worth_208 rfl rfl ?_
                      refine aw_ialdn (N := 32) (i := (r.length + 1)) hO dX4_worth_209 rfl hk.b.1 hk.b.2 (by decide) (by simp only [List.length_cons]; omega) (by omega) ?_
                      refine aw_cg hR.1 ?_
                      refine aw_i2l hO dX4_worth_210 rfl ⟨by omega, by omega⟩ ?_
                      refine aw_stq (st' := [vL b, vL a, vI (sgn t.1), vI (((((b :: a :: r).length : Nat) : Int) + (-1)) - 1), vR (k + 2)]) (by rw [show (((11000 + sgn t.1) - 11000) : Int) = sgn t.1 by omega]; rfl) ?_
                      refine aw_callSL (as := [vI (sgn t.1), vL a, vL b]) (st := [vI (((((b :: a :: r).length : Nat) : Int) + (-1)) - 1), vR (k + 2)]) hO dX4_worth_211 rfl (lw_t4 23 rfl rfl) kX4_join (ctC_join m (op := t.1) (a := a) (b := b) (by omega) hop.1 (by omega) (by omega) (by omega) (by omega)) (by decide) rfl rfl rfl (Nat.le_of_ble_eq_true rfl) (fun v4 μ5 hq6 => ?_)
                      obtain ⟨e_v4, e_μ5⟩ := hq6
                      subst e_v4
                      refine aw_meq e_μ5 ?_
                      refine aw_ldc (a := 1000000) hO dX4_worth_214 rfl (lw_t4 26 rfl rfl) ?_
                      refine aw_callSNI (as := [vL (jn t.1 a b), vI 1000000]) (st := [vI (((((b :: a :: r).length : Nat) : Int) + (-1)) - 1), vR (k + 2)]) hO dX4_worth_216 rfl (lw_t4n 27 rfl rfl) kX11_within (ctC_within m (v := jn t.1 a b) (m := 1000000) hjr (by omega) (by omega)) (by decide) rfl rfl rfl (Nat.le_of_ble_eq_true rfl) ?_
                      refine aw_cg (jn_wk (by omega) hop.1) ?_
                      refine aw_iastn (N := 32) (i := r.length) hO dX4_worth_219 rfl hk.b.1 hk.b.2 (by decide) (by simp only [List.length_cons]; omega) (by omega) ?_
                      refine aw_mm (fun μ7 e_μ7 => ?_)
                      have hF_μ7 : Fr (fun k' _ => k' = k + 2) μ μ7 := by rw [e_μ7]; exact hF.st rfl _
                      refine aw_iinc (ls' := [some (vR k), some (vR 74), some (vI ((((b :: a :: r).length : Nat) : Int) + (-1))), some (vI (((i : Nat) : Int) + 1)), some (vI (11000 + sgn t.1)), none]) hO dX4_worth_220 rfl rfl rfl rfl ?_
                      refine aw_lsq (ls' := [some (vR k), some (vR 74), some (vI ((((b :: a :: r).length : Nat) : Int) + (-1))), some (vI (((i + 1) : Nat) : Int)), some (vI (11000 + sgn t.1)), none]) rfl ?_
                      refine aw_goto (tgt := 4) hO dX4_worth_223 rfl ?_
                      refine aw_fg (ls' := [some (vR k), some (vR 74), some (vI ((((b :: a :: r).length : Nat) : Int) + (-1))), some (vI (((i + 1) : Nat) : Int)), none, none]) ⟨rfl, rfl, rfl, rfl, trivial⟩ ?_
                      refine aw_lsq (ls' := [some (vR k), some (vR 74), some (vI (((wkC t.1 a b :: r).length : Nat) : Int)), some (vI ((i + 1 : Nat) : Int)), none, none]) (by rw [show (((((b :: a :: r).length : Nat) : Int) + (-1)) : Int) = (((wkC t.1 a b :: r).length : Nat) : Int) from by first | rfl | (simp only [List.length_cons]; omega)]) ?_
                      refine ih (i + 1) n (wkC t.1 a b :: r) μ7 hF_μ7 (⟨by rw [e_μ7, mst_eq], hR.2.2.of (fun j hj => by rw [e_μ7, mst_ni (by omega)])⟩) (lim.cons (fun x hx => by have := hL x (List.mem_cons_of_mem _ (List.mem_cons_of_mem _ hx)); omega) (by omega) (by omega)) (by simp only [List.length_cons] at *; omega) (hok2) hAt2 (by omega) (fun m' s' e hF' hR' hL' hn => ?_)
                      have := kk m' s' (by rw [e]; exact (show evsC _ ts _ = evsC _ ts (ev1C _ _ t) by unfold ev1C; rw [if_neg h0, if_neg h1, if_neg h9])) hF' hR' (hL'.mono (by simp only [List.length_cons]; omega)) hn
                      rw [show i + (t :: ts).length = i + 1 + ts.length by simp only [List.length_cons]; omega] at this
                      exact this
                  · exact absurd c150 (by omega)
                · exact absurd c133 (by omega)
              · exact absurd c87 (by omega)
            · exact absurd c77 (by simp only [List.length_cons]; omega)
          · exact absurd c25 (by omega)
  have cls : ∀ (r : List Cl) (p : Nat) (m : Mm), Fr (fun k' _ => k' = k + 2) μ m → At (μ.1 (k + 1)) p (cmpL p r) → p + (cmpL p r).length = (cmpL 0 l).length → (∀ c ∈ r, WC c) → worthL (μ.1 74) r = worthL (μ.1 74) l → AW K 4 [some (vR k), some (vR 74), some (vI ((0 : Nat) : Int)), some (vI ((p : Nat) : Int)), none, none] [] m := by
    intro r
    induction r with
    | nil =>
      intro p m hF hAt hp hWr he
      simp only [cmpL, List.length_nil, Nat.add_zero] at hp
      have hsz : m.1 k 2 = (((cmpL 0 l).length : Nat) : Int) := by rw [hF.1 k 2 (by omega)]; exact hz
      refine aw_iload_n hO dX4_worth_4 rfl rfl ?_
      refine aw_aload_n hO dX4_worth_5 rfl rfl ?_
      refine aw_get (f := 2) hO dX4_worth_6 rfl okX4 (by decide) (lw_t1 122 rfl rfl) hk.o.1 hk.o.2 rfl rfl ?_
      refine aw_cg hsz ?_
      refine aw_icmp_ge (tgt := 226) hO dX4_worth_9 rfl rfl (inRn (by omega)) (inRn (by omega)) (fun c9 => ?_) (fun c9 => ?_)
      · refine aw_iconst hO dX4_worth_226 rfl ?_
        refine aw_iret hO dX4_worth_227 ?_
        exact ⟨_, rfl, ⟨he, by decide, by decide⟩, hF⟩
      · exact absurd c9 (by omega)
    | cons c r ih =>
      intro p m hF hAt hp hWr he
      have hWc := hWr c List.mem_cons_self
      obtain ⟨v2, hv2, hv2c⟩ := hWc.2.2 (μ.1 74) []
      have ans : ∀ (q : Nat) (m2 : Mm), Fr (fun k' _ => k' = k + 2) μ m2 → At (μ.1 (k + 1)) q (c.2.map enc ++ [11059]) → q + c.2.length < (cmpL 0 l).length → q ≤ 240 → worthL (μ.1 74) (c :: r) = v2 → AW K 4 [some (vR k), some (vR 74), some (vI ((0 : Nat) : Int)), some (vI ((q : Nat) : Int)), none, none] [] m2 := by
        intro q m2 hF2 hA2 hq2 hq240 hw
        obtain ⟨hA3, hA4⟩ := hA2.app
        rw [List.length_map] at hA4
        refine seg c.2 q 1 [] m2 hF2 trivial (fun a ha => absurd ha (by simp)) (Nat.zero_le _) (hWc.2.1 0 (by decide)) hA3 hq2 (fun m s' es hF hR hL hn => ?_)
        rw [hv2c] at es
        subst es
        have hcell : m.1 (k + 1) (q + c.2.length) = 11059 := by rw [hF.1 (k + 1) _ (by omega)]; exact hA4.1
        have hev : (11059 : Int) = 11059 := rfl
        have hsz : m.1 k 2 = (((cmpL 0 l).length : Nat) : Int) := by rw [hF.1 k 2 (by omega)]; exact hz
        have hvr := hL v2 List.mem_cons_self
        refine aw_lsq (ls' := [some (vR k), some (vR 74), some (vI ((1 : Nat) : Int)), some (vI ((q + c.2.length : Nat) : Int)), none, none]) rfl ?_
        refine aw_iload_n hO dX4_worth_4 rfl rfl ?_
        refine aw_aload_n hO dX4_worth_5 rfl rfl ?_
        refine aw_get (f := 2) hO dX4_worth_6 rfl okX4 (by decide) (lw_t1 122 rfl rfl) hk.o.1 hk.o.2 rfl rfl ?_
        refine aw_cg hsz ?_
        refine aw_icmp_ge (tgt := 226) hO dX4_worth_9 rfl rfl (inRn (by omega)) (inRn (by omega)) (fun c9 => ?_) (fun c9 => ?_)
        · exact absurd c9 (by omega)
        · refine aw_aload_n hO dX4_worth_12 rfl rfl ?_
          refine aw_get (f := 0) hO dX4_worth_13 rfl okX4 (by decide) (lw_t1 120 rfl rfl) hk.o.1 hk.o.2 rfl rfl ?_
          refine aw_iload_n hO dX4_worth_16 rfl rfl ?_
          refine aw_ialdn (N := 240) (i := (q + c.2.length)) hO dX4_worth_17 rfl hk.a.1 hk.a.2 (by decide) rfl (by omega) ?_
          refine aw_cg (hcell.trans hev) ?_
          refine aw_istore (ls' := [some (vR k), some (vR 74), some (vI ((1 : Nat) : Int)), some (vI (((q + c.2.length) : Nat) : Int)), some (vI 11059), none]) hO dX4_worth_18 rfl (Nat.le_of_ble_eq_true rfl) rfl rfl ?_
          refine aw_iload hO dX4_worth_20 rfl rfl ?_
          refine aw_sipush hO dX4_worth_22 rfl (by decide) (by decide) ?_
          refine aw_icmp_ge (tgt := 75) hO dX4_worth_25 rfl rfl (inRlit _) (inRlit _) (fun c25 => ?_) (fun c25 => ?_)
          · refine aw_iload_n hO dX4_worth_75 rfl rfl ?_
            refine aw_iconst hO dX4_worth_76 rfl ?_
            refine aw_icmp_ge (tgt := 82) hO dX4_worth_77 rfl rfl (inRn (by omega)) (inRlit _) (fun c77 => ?_) (fun c77 => ?_)
            · refine aw_iload hO dX4_worth_82 rfl rfl ?_
              refine aw_sipush hO dX4_worth_84 rfl (by decide) (by decide) ?_
              refine aw_icmp_lt (tgt := 128) hO dX4_worth_87 rfl rfl (inRlit _) (inRlit _) (fun c87 => ?_) (fun c87 => ?_)
              · refine aw_iload hO dX4_worth_128 rfl rfl ?_
                refine aw_sipush hO dX4_worth_130 rfl (by decide) (by decide) ?_
                refine aw_icmp_ne (tgt := 145) hO dX4_worth_133 rfl rfl (inRlit _) (inRlit _) (fun c133 => ?_) (fun c133 => ?_)
                · exact absurd c133 (by omega)
                · refine aw_aload_n hO dX4_worth_136 rfl rfl ?_
                  refine aw_get (f := 1) hO dX4_worth_137 rfl okX4 (by decide) (lw_t1 121 rfl rfl) hk.o.1 hk.o.2 rfl rfl ?_
                  refine aw_iload_n hO dX4_worth_140 rfl rfl ?_
                  refine aw_iconst hO dX4_worth_141 rfl ?_
                  refine aw_isub hO dX4_worth_142 rfl ?_
                  refine aw_ialdn (N := 32) (i := 0) hO dX4_worth_143 rfl hk.b.1 hk.b.2 (by decide) rfl (by decide) ?_
                  refine aw_cg hR.1 ?_
                  refine aw_iret hO dX4_worth_144 ?_
                  exact ⟨_, rfl, ⟨by rw [← he, hw], by omega, by omega⟩, hF⟩
              · exact absurd c87 (by omega)
            · exact absurd c77 (by omega)
          · exact absurd c25 (by omega)
      obtain ⟨ct, cs⟩ := c
      cases ct with
      | none =>
        simp only [cmpL] at hAt hp
        rw [List.length_append, List.length_map, List.length_cons] at hp
        rw [show cs.map enc ++ 11059 :: cmpL (p + cs.length + 1) r = (cs.map enc ++ [11059]) ++ cmpL (p + cs.length + 1) r by simp] at hAt
        exact ans p m hF hAt.app.1 (by dsimp only; omega) (by omega) (by rw [worthL_n, hv2]; rfl)
      | some t =>
        simp only [cmpL] at hAt hp
        simp only [List.length_append, List.length_map, List.length_cons] at hp
        obtain ⟨hA1, hA2⟩ := hAt.app
        rw [List.length_map] at hA2
        obtain ⟨hA3, hA4⟩ := hA2
        have hWt := hWc.1 t rfl
        obtain ⟨vt, hvt01, hvt, hvtc⟩ := hWt.2 (μ.1 74) []
        refine seg t p 1 [] m hF trivial (fun a ha => absurd ha (by simp)) (Nat.zero_le _) (hWt.1 0 (by decide)) hA1 (by omega) (fun m s' es hF hR hL hn => ?_)
        rw [hvtc] at es
        subst es
        have hcell : m.1 (k + 1) (p + t.length) = 12000 + ((p + t.length + cs.length + 2 : Nat) : Int) := by rw [hF.1 (k + 1) _ (by omega)]; exact hA3
        have hev : (12000 + ((p + t.length + cs.length + 2 : Nat) : Int)) = 12000 + ((p + t.length + cs.length + 2 : Nat) : Int) := rfl
        have hsz : m.1 k 2 = (((cmpL 0 l).length : Nat) : Int) := by rw [hF.1 k 2 (by omega)]; exact hz
        refine aw_lsq (ls' := [some (vR k), some (vR 74), some (vI ((1 : Nat) : Int)), some (vI ((p + t.length : Nat) : Int)), none, none]) rfl ?_
        refine aw_iload_n hO dX4_worth_4 rfl rfl ?_
        refine aw_aload_n hO dX4_worth_5 rfl rfl ?_
        refine aw_get (f := 2) hO dX4_worth_6 rfl okX4 (by decide) (lw_t1 122 rfl rfl) hk.o.1 hk.o.2 rfl rfl ?_
        refine aw_cg hsz ?_
        refine aw_icmp_ge (tgt := 226) hO dX4_worth_9 rfl rfl (inRn (by omega)) (inRn (by omega)) (fun c9 => ?_) (fun c9 => ?_)
        · exact absurd c9 (by omega)
        · refine aw_aload_n hO dX4_worth_12 rfl rfl ?_
          refine aw_get (f := 0) hO dX4_worth_13 rfl okX4 (by decide) (lw_t1 120 rfl rfl) hk.o.1 hk.o.2 rfl rfl ?_
          refine aw_iload_n hO dX4_worth_16 rfl rfl ?_
          refine aw_ialdn (N := 240) (i := (p + t.length)) hO dX4_worth_17 rfl hk.a.1 hk.a.2 (by decide) rfl (by omega) ?_
          refine aw_cg (hcell.trans hev) ?_
          refine aw_istore (ls' := [some (vR k), some (vR 74), some (vI ((1 : Nat) : Int)), some (vI (((p + t.length) : Nat) : Int)), some (vI (12000 + ((p + t.length + cs.length + 2 : Nat) : Int))), none]) hO dX4_worth_18 rfl (Nat.le_of_ble_eq_true rfl) rfl rfl ?_
          refine aw_iload hO dX4_worth_20 rfl rfl ?_
          refine aw_sipush hO dX4_worth_22 rfl (by decide) (by decide) ?_
          refine aw_icmp_ge (tgt := 75) hO dX4_worth_25 rfl rfl ⟨by omega, by omega⟩ (inRlit _) (fun c25 => ?_) (fun c25 => ?_)
          · refine aw_iload_n hO dX4_worth_75 rfl rfl ?_
            refine aw_iconst hO dX4_worth_76 rfl ?_
            refine aw_icmp_ge (tgt := 82) hO dX4_worth_77 rfl rfl (inRn (by omega)) (inRlit _) (fun c77 => ?_) (fun c77 => ?_)
            · refine aw_iload hO dX4_worth_82 rfl rfl ?_
              refine aw_sipush hO dX4_worth_84 rfl (by decide) (by decide) ?_
              refine aw_icmp_lt (tgt := 128) hO dX4_worth_87 rfl rfl ⟨by omega, by omega⟩ (inRlit _) (fun c87 => ?_) (fun c87 => ?_)
              · exact absurd c87 (by omega)
              · refine aw_iinc (ls' := [some (vR k), some (vR 74), some (vI (((1 : Nat) : Int) + (-1))), some (vI (((p + t.length) : Nat) : Int)), some (vI (12000 + ((p + t.length + cs.length + 2 : Nat) : Int))), none]) hO dX4_worth_90 rfl rfl rfl rfl ?_
                refine aw_aload_n hO dX4_worth_93 rfl rfl ?_
                refine aw_get (f := 1) hO dX4_worth_94 rfl okX4 (by decide) (lw_t1 121 rfl rfl) hk.o.1 hk.o.2 rfl rfl ?_
                refine aw_iload_n hO dX4_worth_97 rfl rfl ?_
                refine aw_ialdn (N := 32) (i := 0) hO dX4_worth_98 rfl hk.b.1 hk.b.2 (by decide) rfl (by decide) ?_
                refine aw_cg hR.1 ?_
                refine aw_if_ne (tgt := 123) hO dX4_worth_99 rfl rfl ⟨by omega, by omega⟩ (fun c99 => ?_) (fun c99 => ?_)
                · refine aw_iload_n hO dX4_worth_123 rfl rfl ?_
                  refine aw_istore_n (ls' := [some (vR k), some (vR 74), some (vI (((1 : Nat) : Int) + (-1))), some (vI (((p + t.length) : Nat) : Int)), some (vI (12000 + ((p + t.length + cs.length + 2 : Nat) : Int))), none]) hO dX4_worth_124 rfl (Nat.le_of_ble_eq_true rfl) rfl rfl ?_
                  refine aw_goto (tgt := 220) hO dX4_worth_125 rfl ?_
                  refine aw_iinc (ls' := [some (vR k), some (vR 74), some (vI (((1 : Nat) : Int) + (-1))), some (vI ((((p + t.length) : Nat) : Int) + 1)), some (vI (12000 + ((p + t.length + cs.length + 2 : Nat) : Int))), none]) hO dX4_worth_220 rfl rfl rfl rfl ?_
                  refine aw_lsq (ls' := [some (vR k), some (vR 74), some (vI (((1 : Nat) : Int) + (-1))), some (vI ((((p + t.length) + 1) : Nat) : Int)), some (vI (12000 + ((p + t.length + cs.length + 2 : Nat) : Int))), none]) rfl ?_
                  refine aw_goto (tgt := 4) hO dX4_worth_223 rfl ?_
                  refine aw_fg (ls' := [some (vR k), some (vR 74), some (vI (((1 : Nat) : Int) + (-1))), some (vI ((((p + t.length) + 1) : Nat) : Int)), none, none]) ⟨rfl, rfl, rfl, rfl, trivial⟩ ?_
                  refine aw_lsq (ls' := [some (vR k), some (vR 74), some (vI ((0 : Nat) : Int)), some (vI ((p + t.length + 1 : Nat) : Int)), none, none]) (by congr 4) ?_
                  rw [show cs.map enc ++ 11059 :: cmpL (p + t.length + cs.length + 2) r = (cs.map enc ++ [11059]) ++ cmpL (p + t.length + cs.length + 2) r by simp] at hA4
                  exact ans (p + t.length + 1) m hF hA4.app.1 (by dsimp only; omega) (by omega) (by rw [worthL_t (by rw [hvt]; exact c99), hv2]; rfl)
                · refine aw_iload hO dX4_worth_102 rfl rfl ?_
                  refine aw_sipush hO dX4_worth_104 rfl (by decide) (by decide) ?_
                  refine aw_isub hO dX4_worth_107 rfl ?_
                  refine aw_iload_n hO dX4_worth_108 rfl rfl ?_
                  refine aw_icmp_le (tgt := 123) hO dX4_worth_109 rfl rfl ⟨by omega, by omega⟩ (inRn (by omega)) (fun c109 => ?_) (fun c109 => ?_)
                  · exact absurd c109 (by omega)
                  · refine aw_iload hO dX4_worth_112 rfl rfl ?_
                    refine aw_sipush hO dX4_worth_114 rfl (by decide) (by decide) ?_
                    refine aw_isub hO dX4_worth_117 rfl ?_
                    refine aw_iconst hO dX4_worth_118 rfl ?_
                    refine aw_isub hO dX4_worth_119 rfl ?_
                    refine aw_goto (tgt := 124) hO dX4_worth_120 rfl ?_
                    refine aw_istore_n (ls' := [some (vR k), some (vR 74), some (vI (((1 : Nat) : Int) + (-1))), some (vI (((12000 + ((p + t.length + cs.length + 2 : Nat) : Int)) - 12000) - 1)), some (vI (12000 + ((p + t.length + cs.length + 2 : Nat) : Int))), none]) hO dX4_worth_124 rfl (Nat.le_of_ble_eq_true rfl) rfl rfl ?_
                    refine aw_goto (tgt := 220) hO dX4_worth_125 rfl ?_
                    refine aw_iinc (ls' := [some (vR k), some (vR 74), some (vI (((1 : Nat) : Int) + (-1))), some (vI ((((12000 + ((p + t.length + cs.length + 2 : Nat) : Int)) - 12000) - 1) + 1)), some (vI (12000 + ((p + t.length + cs.length + 2 : Nat) : Int))), none]) hO dX4_worth_220 rfl rfl rfl rfl ?_
                    refine aw_goto (tgt := 4) hO dX4_worth_223 rfl ?_
                    refine aw_fg (ls' := [some (vR k), some (vR 74), some (vI (((1 : Nat) : Int) + (-1))), some (vI ((((12000 + ((p + t.length + cs.length + 2 : Nat) : Int)) - 12000) - 1) + 1)), none, none]) ⟨rfl, rfl, rfl, rfl, trivial⟩ ?_
                    refine aw_lsq (ls' := [some (vR k), some (vR 74), some (vI ((0 : Nat) : Int)), some (vI ((p + t.length + cs.length + 2 : Nat) : Int)), none, none]) (by rw [show (((((12000 + ((p + t.length + cs.length + 2 : Nat) : Int)) - 12000) - 1) + 1) : Int) = ((p + t.length + cs.length + 2 : Nat) : Int) by omega]; rfl) ?_
                    obtain ⟨hA5, hA6⟩ := hA4.app
                    rw [List.length_map] at hA6
                    have hA7 := hA6.2
                    rw [show p + t.length + 1 + cs.length + 1 = p + t.length + cs.length + 2 by omega] at hA7
                    exact ih (p + t.length + cs.length + 2) m hF hA7 (by omega) (fun c hc => hWr c (List.mem_cons_of_mem _ hc)) (by rw [← he, worthL_f (by rw [hvt]; exact c99)])
            · exact absurd c77 (by omega)
          · exact absurd c25 (by omega)
  refine aw_iconst hO dX4_worth_0 rfl ?_
  refine aw_istore_n (ls' := [some (vR k), some (vR 74), some (vI 0), none, none, none]) hO dX4_worth_1 rfl (Nat.le_of_ble_eq_true rfl) rfl rfl ?_
  refine aw_iconst hO dX4_worth_2 rfl ?_
  refine aw_istore_n (ls' := [some (vR k), some (vR 74), some (vI 0), some (vI 0), none, none]) hO dX4_worth_3 rfl (Nat.le_of_ble_eq_true rfl) rfl rfl ?_
  refine aw_lsq (ls' := [some (vR k), some (vR 74), some (vI ((0 : Nat) : Int)), some (vI ((0 : Nat) : Int)), none, none]) rfl ?_
  exact cls l 0 μ Fr.rf hA (by omega) hW rfl
