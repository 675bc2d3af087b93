/-! ## questions (5): who should meet which trouble -/
/-- the reference's search, with -1 for no row yet -/
def wkN (μ : Mm) : Nat → Nat → Int → Int → Int → Int × Int → Int × Int
  | 0, _, _, row, sum, s => if s.2 < sum then (row, sum) else s
  | c + 1, t, gone, row, sum, s => wkN μ c (t + 1) gone (10 * row + 9) sum (wkL (wkP μ t gone) (fun p => wkN μ c (t + 1) (bOr gone (bShl 1 (p : Int))) (10 * row + (p : Int)) (sum + μ.1 16 (3 * t + 2))) (μ.1 0 25).toNat s)
def nrm (s : Int × Int) : Int × Int := if s.1 = -1 then (-1, -1) else s
theorem wkL_nrm {ok : Nat → Bool} {R R' : Nat → Int × Int → Int × Int} (h : ∀ p s, nrm (R p s) = R' p (nrm s)) : ∀ n s, nrm (wkL ok R n s) = wkL ok R' n (nrm s)
  | 0, _ => rfl
  | n + 1, s => by
    rw [wkL, wkL]
    split
    · rw [h, wkL_nrm h n s]
    · exact wkL_nrm h n s
/-- gravities from trouble t on, c of them -/
def grs (ν : Mm) : Nat → Nat → Int
  | 0, _ => 0
  | c + 1, t => ν.1 16 (3 * t + 2) + grs ν c (t + 1)
theorem grs_rng {ν : Mm} (h : MB ν) : ∀ c t : Nat, (t : Int) + c ≤ ν.1 0 26 → 0 ≤ grs ν c t ∧ grs ν c t ≤ 9 * (c : Int)
  | 0, _, _ => by simp [grs]
  | c + 1, t, ht => by
    have h1 := grs_rng h c (t + 1) (by omega)
    have h2 := h.tr (t := t) (by omega)
    rw [grs]
    omega
theorem wkM_N {ν : Mm} (h : MB ν) : ∀ (c t : Nat) (gone row sum : Int) (s : Int × Int), (t : Int) + c ≤ ν.1 0 26 → 0 ≤ row → 0 ≤ sum → nrm (wkM ν c t gone row sum s) = wkN ν c t gone row sum (nrm s)
  | 0, t, gone, row, sum, s, _, hr, hs => by
    rw [wkM, wkN]
    unfold nrm
    by_cases e : s.1 = -1
    · rw [if_pos (Or.inl e), if_pos e, if_pos (show (-1 : Int) < sum by omega), if_neg (show ¬ row = -1 by omega)]
    · rw [if_neg e]
      by_cases e2 : s.2 < sum
      · rw [if_pos (Or.inr e2), if_pos e2, if_neg (show ¬ row = -1 by omega)]
      · have hc : ¬ (s.1 = -1 ∨ s.2 < sum) := fun q => q.elim e e2
        rw [if_neg hc, if_neg e, if_neg e2]
  | c + 1, t, gone, row, sum, s, ht, hr, hs => by
    have hg := h.tr (t := t) (by omega)
    rw [wkM, wkN, wkM_N h c (t + 1) gone _ sum _ (by omega) (by omega) hs]
    congr 1
    exact wkL_nrm (fun p s => wkM_N h c (t + 1) (bOr gone (bShl 1 (p : Int))) (10 * row + (p : Int)) (sum + ν.1 16 (3 * t + 2)) s (by omega) (by omega) (by omega)) _ s
theorem wkL_inv {ok : Nat → Bool} {R : Nat → Int × Int → Int × Int} {I : Int × Int → Prop} (h : ∀ p s, I s → I (R p s)) : ∀ n s, I s → I (wkL ok R n s)
  | 0, _, hs => hs
  | n + 1, s, hs => by
    rw [wkL]
    split
    · exact h _ _ (wkL_inv h n s hs)
    · exact wkL_inv h n s hs
/-- what cannot become better stays -/
theorem wkL_stay {ok : Nat → Bool} {R : Nat → Int × Int → Int × Int} {s : Int × Int} (h : ∀ p, R p s = s) : ∀ n, wkL ok R n s = s
  | 0 => rfl
  | n + 1 => by
    rw [wkL, wkL_stay h n]
    split
    · exact h _
    · rfl
theorem wkN_stay {ν : Mm} (h : MB ν) : ∀ (c t : Nat) (gone row sum : Int) (s : Int × Int), (t : Int) + c ≤ ν.1 0 26 → sum + grs ν c t ≤ s.2 → wkN ν c t gone row sum s = s
  | 0, t, gone, row, sum, s, _, hs => by
    rw [grs] at hs
    rw [wkN, if_neg (by omega)]
  | c + 1, t, gone, row, sum, s, ht, hs => by
    have hg := h.tr (t := t) (by omega)
    rw [grs] at hs
    rw [wkN, wkL_stay (fun p => wkN_stay h c (t + 1) _ _ _ s (by omega) (by omega)), wkN_stay h c (t + 1) gone _ sum s (by omega) (by omega)]
theorem pow5 {t : Nat} (h : t ≤ 5) : (10 : Int) ^ t ≤ 100000 := by
  have hc : t = 0 ∨ t = 1 ∨ t = 2 ∨ t = 3 ∨ t = 4 ∨ t = 5 := by omega
  rcases hc with rfl | rfl | rfl | rfl | rfl | rfl <;> decide
def wkI (s : Int × Int) : Prop := (-1 ≤ s.1 ∧ s.1 ≤ 99999) ∧ (-1 ≤ s.2 ∧ s.2 ≤ 45) ∧ (0 ≤ s.2 → 0 ≤ s.1)
theorem wkN_I {ν : Mm} (h : MB ν) : ∀ (c t : Nat) (gone row sum : Int) (s : Int × Int), (t : Int) + c ≤ ν.1 0 26 → 0 ≤ row → row < 10 ^ t → 0 ≤ sum → sum ≤ 9 * (t : Int) → wkI s → wkI (wkN ν c t gone row sum s) ∧ 0 ≤ (wkN ν c t gone row sum s).2
  | 0, t, gone, row, sum, s, ht, h1, h2, h3, h4, hs => by
    have hnt := h.nt
    have hp := pow5 (show t ≤ 5 by omega)
    rw [wkN]
    unfold wkI at *
    split
    · dsimp only; omega
    · omega
  | c + 1, t, gone, row, sum, s, ht, h1, h2, h3, h4, hs => by
    have hg := h.tr (t := t) (by omega)
    have hn := h.np
    have hp : (10 : Int) ^ (t + 1) = 10 * 10 ^ t := by rw [Int.pow_succ, Int.mul_comm]
    rw [wkN]
    refine wkN_I h c (t + 1) gone _ sum _ (by omega) (by omega) (by rw [hp]; omega) h3 (by omega) ?_
    -- the persons
    have hx : ∀ n, n ≤ 6 → wkI (wkL (wkP ν t gone) (fun p => wkN ν c (t + 1) (bOr gone (bShl 1 (p : Int))) (10 * row + (p : Int)) (sum + ν.1 16 (3 * t + 2))) n s) := by
      intro n
      induction n with
      | zero => intro _; exact hs
      | succ n ih =>
        intro hn6
        rw [wkL]
        split
        · exact (wkN_I h c (t + 1) _ _ _ _ (by omega) (by omega) (by rw [hp]; omega) (by omega) (by omega) (ih (by omega))).1
        · exact ih (by omega)
    exact hx _ (by omega)
theorem hasB_metM {ν : Mm} {q : Int} (hq : q ≠ -1) {t : Nat} : ∀ n, n ≤ 5 → t < n → hasB (metM ν q n) t = decide (ν.1 17 (24 + t) ≤ ν.1 15 (4 * q.toNat + (ν.1 16 (3 * t)).toNat))
  | 0, _, h => by omega
  | n + 1, hn, ht => by
    rw [metM_s hq, hasB_or (by omega)]
    by_cases e : t = n
    · subst e
      have hno : hasB (metM ν q t) t = false := by
        have key : ∀ n, n ≤ t → hasB (metM ν q n) t = false := by
          intro n
          induction n with
          | zero => intro _; rw [metM_0, hasB_0 (by omega)]
          | succ n ih =>
            intro hnt
            rw [metM_s hq, hasB_or (by omega), ih (by omega)]
            split
            · rw [hasB_shl (by omega) (by omega)]; simp; omega
            · rw [hasB_0 (by omega)]; rfl
        exact key t (Nat.le_refl _)
      rw [hno, Bool.false_or]
      split
      · rename_i hc; rw [hasB_shl (by omega) (by omega)]; simp [hc]
      · rename_i hc; rw [hasB_0 (by omega)]; simp [hc]
    · rw [hasB_metM hq n (by omega) (by omega)]
      have hno : hasB (if ν.1 17 (24 + n) ≤ ν.1 15 (4 * q.toNat + (ν.1 16 (3 * n)).toNat) then bShl 1 (n : Int) else 0) t = false := by
        split
        · rw [hasB_shl (by omega) (by omega)]; simp; omega
        · exact hasB_0 (by omega)
      rw [hno, Bool.or_false]
/-- those free are those in town that are not gone -/
def FGb (ν : Mm) (free gone : Int) : Prop := ∀ p : Nat, (p : Int) < ν.1 0 25 → hasB free p = (!hasB gone p && !hasB (ν.1 17 31) p)
theorem FGb.take {ν : Mm} {free gone : Int} (h : FGb ν free gone) (hn : ν.1 0 25 ≤ 6) {i : Nat} (hi : i < 6) : FGb ν (bAnd free (bXor (bShl 1 (i : Int)) (-1))) (bOr gone (bShl 1 (i : Int))) := fun p hp => by
  rw [hasB_and (by omega), hasB_not (by omega), hasB_or (by omega), hasB_shl (by omega) (by omega), h p hp]
  cases hasB gone p <;> cases hasB (ν.1 17 31) p <;> cases decide (p = i) <;> rfl
/-- the memory with that best row -/
def mQ (μ : Mm) (s : Int × Int) (m : Mm) : Prop := m.1 77 4 = s.1 ∧ m.1 77 5 = s.2 ∧ Fr (fun k i => k = 77 ∧ (i = 4 ∨ i = 5)) μ m
theorem mQ.qs {μ m : Mm} {s : Int × Int} (h : mQ μ s m) : Fr qS μ m := h.2.2.mono (fun _ _ e => Or.inr (Or.inr (Or.inr e)))
theorem dX6_assign_0 : decode cX6_assign 0 = .ok (.iload 5, 2) := by decide +kernel
theorem dX6_assign_2 : decode cX6_assign 2 = .ok (.iload 6, 2) := by decide +kernel
theorem dX6_assign_4 : decode cX6_assign 4 = .ok (.iadd, 1) := by decide +kernel
theorem dX6_assign_5 : decode cX6_assign 5 = .ok (.aload_n 0, 1) := by decide +kernel
theorem dX6_assign_6 : decode cX6_assign 6 = .ok (.getfield 26, 3) := by decide +kernel
theorem dX6_assign_9 : decode cX6_assign 9 = .ok (.if_icmp .gt 4, 3) := by decide +kernel
theorem dX6_assign_12 : decode cX6_assign 12 = .ok (.return_, 1) := by decide +kernel
theorem dX6_assign_13 : decode cX6_assign 13 = .ok (.aload_n 0, 1) := by decide +kernel
theorem dX6_assign_14 : decode cX6_assign 14 = .ok (.getfield 29, 3) := by decide +kernel
theorem dX6_assign_17 : decode cX6_assign 17 = .ok (.iload_n 2, 1) := by decide +kernel
theorem dX6_assign_18 : decode cX6_assign 18 = .ok (.invokevirtual 115, 3) := by decide +kernel
theorem dX6_assign_21 : decode cX6_assign 21 = .ok (.ifCond .ne 16, 3) := by decide +kernel
theorem dX6_assign_24 : decode cX6_assign 24 = .ok (.aload_n 0, 1) := by decide +kernel
theorem dX6_assign_25 : decode cX6_assign 25 = .ok (.iload 4, 2) := by decide +kernel
theorem dX6_assign_27 : decode cX6_assign 27 = .ok (.putfield 22, 3) := by decide +kernel
theorem dX6_assign_30 : decode cX6_assign 30 = .ok (.aload_n 0, 1) := by decide +kernel
theorem dX6_assign_31 : decode cX6_assign 31 = .ok (.iload 5, 2) := by decide +kernel
theorem dX6_assign_33 : decode cX6_assign 33 = .ok (.putfield 26, 3) := by decide +kernel
theorem dX6_assign_36 : decode cX6_assign 36 = .ok (.return_, 1) := by decide +kernel
theorem dX6_assign_37 : decode cX6_assign 37 = .ok (.aload_n 0, 1) := by decide +kernel
theorem dX6_assign_38 : decode cX6_assign 38 = .ok (.getfield 29, 3) := by decide +kernel
theorem dX6_assign_41 : decode cX6_assign 41 = .ok (.iload_n 2, 1) := by decide +kernel
theorem dX6_assign_42 : decode cX6_assign 42 = .ok (.invokevirtual 108, 3) := by decide +kernel
theorem dX6_assign_45 : decode cX6_assign 45 = .ok (.istore 7, 2) := by decide +kernel
theorem dX6_assign_47 : decode cX6_assign 47 = .ok (.iconst 0, 1) := by decide +kernel
theorem dX6_assign_48 : decode cX6_assign 48 = .ok (.istore 8, 2) := by decide +kernel
theorem dX6_assign_50 : decode cX6_assign 50 = .ok (.iload 8, 2) := by decide +kernel
theorem dX6_assign_52 : decode cX6_assign 52 = .ok (.aload_n 0, 1) := by decide +kernel
theorem dX6_assign_53 : decode cX6_assign 53 = .ok (.getfield 29, 3) := by decide +kernel
theorem dX6_assign_56 : decode cX6_assign 56 = .ok (.getfield 94, 3) := by decide +kernel
theorem dX6_assign_59 : decode cX6_assign 59 = .ok (.if_icmp .ge 90, 3) := by decide +kernel
theorem dX6_assign_62 : decode cX6_assign 62 = .ok (.aload_n 0, 1) := by decide +kernel
theorem dX6_assign_63 : decode cX6_assign 63 = .ok (.getfield 29, 3) := by decide +kernel
theorem dX6_assign_66 : decode cX6_assign 66 = .ok (.iload 8, 2) := by decide +kernel
theorem dX6_assign_68 : decode cX6_assign 68 = .ok (.aload_n 0, 1) := by decide +kernel
theorem dX6_assign_69 : decode cX6_assign 69 = .ok (.getfield 29, 3) := by decide +kernel
theorem dX6_assign_72 : decode cX6_assign 72 = .ok (.iload_n 2, 1) := by decide +kernel
theorem dX6_assign_73 : decode cX6_assign 73 = .ok (.invokevirtual 119, 3) := by decide +kernel
theorem dX6_assign_76 : decode cX6_assign 76 = .ok (.invokevirtual 122, 3) := by decide +kernel
theorem dX6_assign_79 : decode cX6_assign 79 = .ok (.aload_n 1, 1) := by decide +kernel
theorem dX6_assign_80 : decode cX6_assign 80 = .ok (.iload_n 2, 1) := by decide +kernel
theorem dX6_assign_81 : decode cX6_assign 81 = .ok (.invokevirtual 125, 3) := by decide +kernel
theorem dX6_assign_84 : decode cX6_assign 84 = .ok (.if_icmp .lt 7, 3) := by decide +kernel
theorem dX6_assign_87 : decode cX6_assign 87 = .ok (.iconst 1, 1) := by decide +kernel
theorem dX6_assign_88 : decode cX6_assign 88 = .ok (.goto 4, 3) := by decide +kernel
theorem dX6_assign_91 : decode cX6_assign 91 = .ok (.iconst 0, 1) := by decide +kernel
theorem dX6_assign_92 : decode cX6_assign 92 = .ok (.istore 9, 2) := by decide +kernel
theorem dX6_assign_94 : decode cX6_assign 94 = .ok (.iload 9, 2) := by decide +kernel
theorem dX6_assign_96 : decode cX6_assign 96 = .ok (.ifCond .eq 47, 3) := by decide +kernel
theorem dX6_assign_99 : decode cX6_assign 99 = .ok (.iload_n 3, 1) := by decide +kernel
theorem dX6_assign_100 : decode cX6_assign 100 = .ok (.iload 8, 2) := by decide +kernel
theorem dX6_assign_102 : decode cX6_assign 102 = .ok (.ishr, 1) := by decide +kernel
theorem dX6_assign_103 : decode cX6_assign 103 = .ok (.iconst 1, 1) := by decide +kernel
theorem dX6_assign_104 : decode cX6_assign 104 = .ok (.iand, 1) := by decide +kernel
theorem dX6_assign_105 : decode cX6_assign 105 = .ok (.iconst 1, 1) := by decide +kernel
theorem dX6_assign_106 : decode cX6_assign 106 = .ok (.if_icmp .ne 37, 3) := by decide +kernel
theorem dX6_assign_109 : decode cX6_assign 109 = .ok (.aload_n 0, 1) := by decide +kernel
theorem dX6_assign_110 : decode cX6_assign 110 = .ok (.aload_n 1, 1) := by decide +kernel
theorem dX6_assign_111 : decode cX6_assign 111 = .ok (.iload_n 2, 1) := by decide +kernel
theorem dX6_assign_112 : decode cX6_assign 112 = .ok (.iconst 1, 1) := by decide +kernel
theorem dX6_assign_113 : decode cX6_assign 113 = .ok (.iadd, 1) := by decide +kernel
theorem dX6_assign_114 : decode cX6_assign 114 = .ok (.iload_n 3, 1) := by decide +kernel
theorem dX6_assign_115 : decode cX6_assign 115 = .ok (.iconst 1, 1) := by decide +kernel
theorem dX6_assign_116 : decode cX6_assign 116 = .ok (.iload 8, 2) := by decide +kernel
theorem dX6_assign_118 : decode cX6_assign 118 = .ok (.ishl, 1) := by decide +kernel
theorem dX6_assign_119 : decode cX6_assign 119 = .ok (.iconst (-1), 1) := by decide +kernel
theorem dX6_assign_120 : decode cX6_assign 120 = .ok (.ixor, 1) := by decide +kernel
theorem dX6_assign_121 : decode cX6_assign 121 = .ok (.iand, 1) := by decide +kernel
theorem dX6_assign_122 : decode cX6_assign 122 = .ok (.bipush 10, 2) := by decide +kernel
theorem dX6_assign_124 : decode cX6_assign 124 = .ok (.iload 4, 2) := by decide +kernel
theorem dX6_assign_126 : decode cX6_assign 126 = .ok (.imul, 1) := by decide +kernel
theorem dX6_assign_127 : decode cX6_assign 127 = .ok (.iload 8, 2) := by decide +kernel
theorem dX6_assign_129 : decode cX6_assign 129 = .ok (.iadd, 1) := by decide +kernel
theorem dX6_assign_130 : decode cX6_assign 130 = .ok (.iload 5, 2) := by decide +kernel
theorem dX6_assign_132 : decode cX6_assign 132 = .ok (.iload 7, 2) := by decide +kernel
theorem dX6_assign_134 : decode cX6_assign 134 = .ok (.iadd, 1) := by decide +kernel
theorem dX6_assign_135 : decode cX6_assign 135 = .ok (.iload 6, 2) := by decide +kernel
theorem dX6_assign_137 : decode cX6_assign 137 = .ok (.iload 7, 2) := by decide +kernel
theorem dX6_assign_139 : decode cX6_assign 139 = .ok (.isub, 1) := by decide +kernel
theorem dX6_assign_140 : decode cX6_assign 140 = .ok (.invokevirtual 111, 3) := by decide +kernel
theorem dX6_assign_143 : decode cX6_assign 143 = .ok (.iinc 8 1, 3) := by decide +kernel
theorem dX6_assign_146 : decode cX6_assign 146 = .ok (.goto (-96), 3) := by decide +kernel
theorem dX6_assign_149 : decode cX6_assign 149 = .ok (.aload_n 0, 1) := by decide +kernel
theorem dX6_assign_150 : decode cX6_assign 150 = .ok (.aload_n 1, 1) := by decide +kernel
theorem dX6_assign_151 : decode cX6_assign 151 = .ok (.iload_n 2, 1) := by decide +kernel
theorem dX6_assign_152 : decode cX6_assign 152 = .ok (.iconst 1, 1) := by decide +kernel
theorem dX6_assign_153 : decode cX6_assign 153 = .ok (.iadd, 1) := by decide +kernel
theorem dX6_assign_154 : decode cX6_assign 154 = .ok (.iload_n 3, 1) := by decide +kernel
theorem dX6_assign_155 : decode cX6_assign 155 = .ok (.bipush 10, 2) := by decide +kernel
theorem dX6_assign_157 : decode cX6_assign 157 = .ok (.iload 4, 2) := by decide +kernel
theorem dX6_assign_159 : decode cX6_assign 159 = .ok (.imul, 1) := by decide +kernel
theorem dX6_assign_160 : decode cX6_assign 160 = .ok (.bipush 9, 2) := by decide +kernel
theorem dX6_assign_162 : decode cX6_assign 162 = .ok (.iadd, 1) := by decide +kernel
theorem dX6_assign_163 : decode cX6_assign 163 = .ok (.iload 5, 2) := by decide +kernel
theorem dX6_assign_165 : decode cX6_assign 165 = .ok (.iload 6, 2) := by decide +kernel
theorem dX6_assign_167 : decode cX6_assign 167 = .ok (.iload 7, 2) := by decide +kernel
theorem dX6_assign_169 : decode cX6_assign 169 = .ok (.isub, 1) := by decide +kernel
theorem dX6_assign_170 : decode cX6_assign 170 = .ok (.invokevirtual 111, 3) := by decide +kernel
theorem dX6_assign_173 : decode cX6_assign 173 = .ok (.return_, 1) := by decide +kernel
set_option maxRecDepth 100000 in
theorem gC_X6_26_77 {Q : Option AV → Mm → Prop} {K : KT} {cc : ByteArray} {nL d : Nat} {ret : Option FieldType} {pc n : Nat} {ls : List (Option AV)} {st : List AV} {μ : Mm} (hO : KOk PC Q K cc RX6 nL d ret) (hd : decode cc pc = .ok (.getfield 26, 3)) (hn : pc + 3 = n) (kk : AW K n ls (vI (μ.1 77 5) :: st) μ) : AW K pc ls (vR 77 :: st) μ := aw_get (f := 5) hO hd hn okX6 (by decide) (lw_t2 1 rfl rfl) (by decide) rfl rfl rfl kk
set_option maxRecDepth 100000 in
theorem pC_X6_22_77 {Q : Option AV → Mm → Prop} {K : KT} {cc : ByteArray} {nL d : Nat} {ret : Option FieldType} {pc n : Nat} {ls : List (Option AV)} {st : List AV} {μ : Mm} {a : Int} (hO : KOk PC Q K cc RX6 nL d ret) (hd : decode cc pc = .ok (.putfield 22, 3)) (hn : pc + 3 = n) (kk : AW K n ls st (mst μ 77 4 a)) : AW K pc ls (vI a :: vR 77 :: st) μ := aw_put (f := 4) hO hd hn okX6 tyX6_ok nmX6 (by decide) (lw_t1 239 rfl rfl) rfl rfl rfl (by decide) rfl rfl kk
set_option maxRecDepth 100000 in
theorem pC_X6_26_77 {Q : Option AV → Mm → Prop} {K : KT} {cc : ByteArray} {nL d : Nat} {ret : Option FieldType} {pc n : Nat} {ls : List (Option AV)} {st : List AV} {μ : Mm} {a : Int} (hO : KOk PC Q K cc RX6 nL d ret) (hd : decode cc pc = .ok (.putfield 26, 3)) (hn : pc + 3 = n) (kk : AW K n ls st (mst μ 77 5 a)) : AW K pc ls (vI a :: vR 77 :: st) μ := aw_put (f := 5) hO hd hn okX6 tyX6_ok nmX6 (by decide) (lw_t2 1 rfl rfl) rfl rfl rfl (by decide) rfl rfl kk
set_option maxHeartbeats 4000000 in
set_option maxRecDepth 100000 in
theorem cJ_assign {μ ν : Mm} (h : JR μ 27 ν) : ∀ (c t : Nat) (free gone row sum left : Int) (s : Int × Int) (m : Mm), (t : Int) + c = ν.1 0 26 → FGb ν free gone → 0 ≤ row → row < 10 ^ t → 0 ≤ sum → sum ≤ 9 * (t : Int) → left = grs ν c t → wkI s → mQ μ s m → CtV PC (2 + c) yX6_assign cX6_assign 10 none [vR 77, vR 27, vI ((t : Nat) : Int), vI free, vI row, vI sum, vI left] m (fun m2 => mQ μ (wkN ν c t gone row sum s) m2) := by
  have hnp := h.B.np
  have hnt := h.B.nt
  intro c
  induction c with
  | zero =>
    intro t free gone row sum left s m ht hfg hr1 hr2 hs1 hs3 hl hs hm
    refine ct_intro [some (vR 77), some (vR 27), some (vI ((t : Nat) : Int)), some (vI free), some (vI row), some (vI sum), some (vI left), none, none, none] RX6 (by decide) rfl XCo rfl (Nat.le_of_ble_eq_true rfl) (fun K hO => ?_)
    have hJm := h.fq hm.qs
    have hp5 := pow5 (show t ≤ 5 by omega)
    have hs2 := hs.2.1
    rw [grs] at hl
    refine aw_iload hO dX6_assign_0 rfl rfl ?_
    refine aw_iload hO dX6_assign_2 rfl rfl ?_
    refine aw_iadd hO dX6_assign_4 rfl ?_
    refine aw_aload_n hO dX6_assign_5 rfl rfl ?_
    refine gC_X6_26_77 hO dX6_assign_6 rfl ?_
    refine aw_cg hm.2.1 ?_
    refine aw_icmp_gt (tgt := 13) hO dX6_assign_9 rfl rfl ⟨by omega, by omega⟩ ⟨by omega, by omega⟩ (fun c9 => ?_) (fun c9 => ?_)
    · refine aw_aload_n hO dX6_assign_13 rfl rfl ?_
      refine gC_X6_29_77 hO dX6_assign_14 rfl ?_
      refine aw_iload_n hO dX6_assign_17 rfl rfl ?_
      refine aw_callVI (as := [vI ((t : Nat) : Int)]) (st := []) hO dX6_assign_18 rfl (lw_t5 25 rfl rfl) kX9_hasTrouble (T := TX9) rfl (by decide) rfl (cJ_hasTrouble hJm.z (v := ((t : Nat) : Int)) ⟨by omega, by omega⟩) (by omega) rfl rfl rfl (Nat.le_of_ble_eq_true rfl) ?_
      refine aw_ifz_ne (tgt := 37) hO dX6_assign_21 rfl rfl (fun c21 => ?_) (fun c21 => ?_)
      · exact absurd c21.2 (by omega)
      · refine aw_aload_n hO dX6_assign_24 rfl rfl ?_
        refine aw_iload hO dX6_assign_25 rfl rfl ?_
        refine pC_X6_22_77 hO dX6_assign_27 rfl ?_
        refine aw_mm (fun μ1 e_μ1 => ?_)
        refine aw_aload_n hO dX6_assign_30 rfl rfl ?_
        refine aw_iload hO dX6_assign_31 rfl rfl ?_
        refine pC_X6_26_77 hO dX6_assign_33 rfl ?_
        refine aw_mm (fun μ2 e_μ2 => ?_)
        refine aw_vret hO dX6_assign_36 ?_
        exact ⟨rfl, by rw [wkN, if_pos (by omega), e_μ2, e_μ1]; exact ⟨by rw [mst_ni (by decide), mst_eq], mst_eq, (hm.2.2.st ⟨rfl, Or.inl rfl⟩ _).st ⟨rfl, Or.inr rfl⟩ _⟩⟩
    · refine aw_vret hO dX6_assign_12 ?_
      exact ⟨rfl, by rw [wkN_stay h.B 0 t gone row sum s (by omega) (by rw [grs]; omega)]; exact hm⟩
  | succ c ih =>
    intro t free gone row sum left s m ht hfg hr1 hr2 hs1 hs3 hl hs hm
    refine ct_intro [some (vR 77), some (vR 27), some (vI ((t : Nat) : Int)), some (vI free), some (vI row), some (vI sum), some (vI left), none, none, none] RX6 (by decide) rfl XCo rfl (Nat.le_of_ble_eq_true rfl) (fun K hO => ?_)
    have hJm := h.fq hm.qs
    have hp5 := pow5 (show t ≤ 5 by omega)
    have hs2 := hs.2.1
    have hg := h.B.tr (t := t) (by omega)
    have hgr := grs_rng h.B c (t + 1) (by omega)
    have hl2 := hl
    rw [grs] at hl2
    have hp10 : (10 : Int) ^ (t + 1) = 10 * 10 ^ t := by rw [Int.pow_succ, Int.mul_comm]
    have hasks := h.B.now.ask (j := 24 + t) (by omega) (by omega)
    have RR : ∃ R : Nat → Int × Int → Int × Int, R = (fun (p : Nat) => wkN ν c (t + 1) (bOr gone (bShl 1 (p : Int))) (10 * row + (p : Int)) (sum + ν.1 16 (3 * t + 2))) := ⟨_, rfl⟩
    obtain ⟨R, hR⟩ := RR
    refine aw_iload hO dX6_assign_0 rfl rfl ?_
    refine aw_iload hO dX6_assign_2 rfl rfl ?_
    refine aw_iadd hO dX6_assign_4 rfl ?_
    refine aw_aload_n hO dX6_assign_5 rfl rfl ?_
    refine gC_X6_26_77 hO dX6_assign_6 rfl ?_
    refine aw_cg hm.2.1 ?_
    refine aw_icmp_gt (tgt := 13) hO dX6_assign_9 rfl rfl ⟨by omega, by omega⟩ ⟨by omega, by omega⟩ (fun c9 => ?_) (fun c9 => ?_)
    · refine aw_aload_n hO dX6_assign_13 rfl rfl ?_
      refine gC_X6_29_77 hO dX6_assign_14 rfl ?_
      refine aw_iload_n hO dX6_assign_17 rfl rfl ?_
      refine aw_callVI (as := [vI ((t : Nat) : Int)]) (st := []) hO dX6_assign_18 rfl (lw_t5 25 rfl rfl) kX9_hasTrouble (T := TX9) rfl (by decide) rfl (cJ_hasTrouble hJm.z (v := ((t : Nat) : Int)) ⟨by omega, by omega⟩) (by omega) rfl rfl rfl (Nat.le_of_ble_eq_true rfl) ?_
      refine aw_ifz_ne (tgt := 37) hO dX6_assign_21 rfl rfl (fun c21 => ?_) (fun c21 => ?_)
      · refine aw_aload_n hO dX6_assign_37 rfl rfl ?_
        refine gC_X6_29_77 hO dX6_assign_38 rfl ?_
        refine aw_iload_n hO dX6_assign_41 rfl rfl ?_
        refine aw_callVI (as := [vI ((t : Nat) : Int)]) (st := []) hO dX6_assign_42 rfl (lw_t5 20 rfl rfl) kX9_gravity (T := TX9) rfl (by decide) rfl (cJ_gravity hJm.z (t := t) (by omega)) (by omega) rfl rfl rfl (Nat.le_of_ble_eq_true rfl) ?_
        refine aw_istore (ls' := [some (vR 77), some (vR 27), some (vI ((t : Nat) : Int)), some (vI free), some (vI row), some (vI sum), some (vI left), some (vI (ν.1 16 (3 * t + 2))), none, none]) hO dX6_assign_45 rfl (Nat.le_of_ble_eq_true rfl) rfl rfl ?_
        refine aw_iconst hO dX6_assign_47 rfl ?_
        refine aw_istore (ls' := [some (vR 77), some (vR 27), some (vI ((t : Nat) : Int)), some (vI free), some (vI row), some (vI sum), some (vI left), some (vI (ν.1 16 (3 * t + 2))), some (vI 0), none]) hO dX6_assign_48 rfl (Nat.le_of_ble_eq_true rfl) rfl rfl ?_
        have k149 : ∀ m2, mQ μ (wkL (wkP ν t gone) R (ν.1 0 25).toNat s) m2 → wkI (wkL (wkP ν t gone) R (ν.1 0 25).toNat s) → AW K 149 [some (vR 77), some (vR 27), some (vI ((t : Nat) : Int)), some (vI free), some (vI row), some (vI sum), some (vI left), some (vI (ν.1 16 (3 * t + 2))), none, none] [] m2 := by
          intro m2 hm2 hs4
          refine aw_aload_n hO dX6_assign_149 rfl rfl ?_
          refine aw_aload_n hO dX6_assign_150 rfl rfl ?_
          refine aw_iload_n hO dX6_assign_151 rfl rfl ?_
          refine aw_iconst hO dX6_assign_152 rfl ?_
          refine aw_iadd hO dX6_assign_153 rfl ?_
          refine aw_iload_n hO dX6_assign_154 rfl rfl ?_
          refine aw_bipush hO dX6_assign_155 rfl (by decide) (by decide) ?_
          refine aw_iload hO dX6_assign_157 rfl rfl ?_
          refine aw_imul hO dX6_assign_159 rfl ?_
          refine aw_bipush hO dX6_assign_160 rfl (by decide) (by decide) ?_
          refine aw_iadd hO dX6_assign_162 rfl ?_
          refine aw_iload hO dX6_assign_163 rfl rfl ?_
          refine aw_iload hO dX6_assign_165 rfl rfl ?_
          refine aw_iload hO dX6_assign_167 rfl rfl ?_
          refine aw_isub hO dX6_assign_169 rfl ?_
          refine aw_callVV (as := [vR 27, vI (((t + 1) : Nat) : Int), vI free, vI ((10 * row) + 9), vI sum, vI (left - (ν.1 16 (3 * t + 2)))]) (st := []) hO dX6_assign_170 rfl (lw_t5 21 rfl rfl) kX6_assign (T := TX6) rfl (by decide) rfl (ih (t + 1) free gone (10 * row + 9) sum (left - ν.1 16 (3 * t + 2)) _ m2 (by omega) hfg (by omega) (by rw [hp10]; omega) hs1 (by omega) (by omega) hs4 hm2) (by omega) rfl rfl rfl (Nat.le_of_ble_eq_true rfl) (fun μ4 hq5 => ?_)
          have hmF := hq5
          refine aw_vret hO dX6_assign_173 ?_
          exact ⟨rfl, by rw [wkN, ← hR]; exact hmF⟩
        have lp : ∀ (d i : Nat) (m2 : Mm), (i : Int) + d = ν.1 0 25 → mQ μ (wkL (wkP ν t gone) R i s) m2 → wkI (wkL (wkP ν t gone) R i s) → AW K 50 [some (vR 77), some (vR 27), some (vI ((t : Nat) : Int)), some (vI free), some (vI row), some (vI sum), some (vI left), some (vI (ν.1 16 (3 * t + 2))), some (vI ((i : Nat) : Int)), none] [] m2 := by
          intro d
          induction d with
          | zero =>
            intro i m2 hi hm2 hs4
            refine aw_iload hO dX6_assign_50 rfl rfl ?_
            refine aw_aload_n hO dX6_assign_52 rfl rfl ?_
            refine gC_X6_29_77 hO dX6_assign_53 rfl ?_
            refine gC_X6_94_25 hO dX6_assign_56 rfl ?_
            refine aw_cg (h.fq hm2.qs).z.T.n ?_
            refine aw_icmp_ge (tgt := 149) hO dX6_assign_59 rfl rfl (inRn (by omega)) ⟨by omega, by omega⟩ (fun c59 => ?_) (fun c59 => ?_)
            · refine aw_fg (ls' := [some (vR 77), some (vR 27), some (vI ((t : Nat) : Int)), some (vI free), some (vI row), some (vI sum), some (vI left), some (vI (ν.1 16 (3 * t + 2))), none, none]) ⟨rfl, rfl, rfl, rfl, rfl, rfl, rfl, rfl, trivial⟩ ?_
              exact k149 m2 (by rw [show (ν.1 0 25).toNat = i by omega]; exact hm2) (by rw [show (ν.1 0 25).toNat = i by omega]; exact hs4)
            · exact absurd c59 (by omega)
          | succ d ihd =>
            intro i m2 hi hm2 hs4
            have hpe := h.B.per (p := i) (k := (ν.1 16 (3 * t)).toNat) (by omega) (by omega)
            have hcw : canW ν i t = decide (ν.1 17 (24 + t) ≤ ν.1 15 (4 * i + (ν.1 16 (3 * t)).toNat)) := by unfold canW; rw [hasB_metM (by omega) _ (by omega) (by omega), Int.toNat_natCast]
            have hfi := hfg i (by omega)
            have k92 : ∀ z : Int, z = (if canW ν i t = true then 1 else 0) → AW K 92 [some (vR 77), some (vR 27), some (vI ((t : Nat) : Int)), some (vI free), some (vI row), some (vI sum), some (vI left), some (vI (ν.1 16 (3 * t + 2))), some (vI ((i : Nat) : Int)), none] [vI z] m2 := by
              intro z hz
              refine aw_istore (ls' := [some (vR 77), some (vR 27), some (vI ((t : Nat) : Int)), some (vI free), some (vI row), some (vI sum), some (vI left), some (vI (ν.1 16 (3 * t + 2))), some (vI ((i : Nat) : Int)), some (vI z)]) hO dX6_assign_92 rfl (Nat.le_of_ble_eq_true rfl) rfl rfl ?_
              refine aw_iload hO dX6_assign_94 rfl rfl ?_
              refine aw_if_eq (tgt := 143) hO dX6_assign_96 rfl rfl (by rw [hz]; exact ⟨by split <;> omega, by split <;> omega⟩) (fun c96 => ?_) (fun c96 => ?_)
              · have hno : ¬ wkP ν t gone i = true := fun q => by
                  unfold wkP at q
                  simp only [Bool.and_eq_true] at q
                  rw [if_pos q.2.2] at hz; omega
                refine aw_iinc (ls' := [some (vR 77), some (vR 27), some (vI ((t : Nat) : Int)), some (vI free), some (vI row), some (vI sum), some (vI left), some (vI (ν.1 16 (3 * t + 2))), some (vI (((i : Nat) : Int) + 1)), some (vI z)]) hO dX6_assign_143 rfl rfl rfl rfl ?_
                refine aw_lsq (ls' := [some (vR 77), some (vR 27), some (vI ((t : Nat) : Int)), some (vI free), some (vI row), some (vI sum), some (vI left), some (vI (ν.1 16 (3 * t + 2))), some (vI (((i + 1) : Nat) : Int)), some (vI z)]) rfl ?_
                refine aw_goto (tgt := 50) hO dX6_assign_146 rfl ?_
                refine aw_fg (ls' := [some (vR 77), some (vR 27), some (vI ((t : Nat) : Int)), some (vI free), some (vI row), some (vI sum), some (vI left), some (vI (ν.1 16 (3 * t + 2))), some (vI ((i + 1 : Nat) : Int)), none]) ⟨rfl, rfl, rfl, rfl, rfl, rfl, rfl, rfl, rfl, trivial⟩ ?_
                exact ihd (i + 1) m2 (by omega) (by rw [wkL, if_neg hno]; exact hm2) (by rw [wkL, if_neg hno]; exact hs4)
              · refine aw_iload_n hO dX6_assign_99 rfl rfl ?_
                refine aw_iload hO dX6_assign_100 rfl rfl ?_
                refine aw_ishr hO dX6_assign_102 rfl ?_
                refine aw_iconst hO dX6_assign_103 rfl ?_
                refine aw_iand hO dX6_assign_104 rfl ?_
                refine aw_iconst hO dX6_assign_105 rfl ?_
                refine aw_icmp_ne (tgt := 143) hO dX6_assign_106 rfl rfl (bAnd_R _ _) (inRlit _) (fun c106 => ?_) (fun c106 => ?_)
                · have hno : ¬ wkP ν t gone i = true := fun q => by
                    unfold wkP at q
                    have q2 : hasB free i = true := by rw [hfi]; simp only [Bool.and_eq_true] at q ⊢; exact ⟨q.1, q.2.1⟩
                    exact c106 (of_decide_eq_true q2)
                  refine aw_iinc (ls' := [some (vR 77), some (vR 27), some (vI ((t : Nat) : Int)), some (vI free), some (vI row), some (vI sum), some (vI left), some (vI (ν.1 16 (3 * t + 2))), some (vI (((i : Nat) : Int) + 1)), some (vI z)]) hO dX6_assign_143 rfl rfl rfl rfl ?_
                  refine aw_lsq (ls' := [some (vR 77), some (vR 27), some (vI ((t : Nat) : Int)), some (vI free), some (vI row), some (vI sum), some (vI left), some (vI (ν.1 16 (3 * t + 2))), some (vI (((i + 1) : Nat) : Int)), some (vI z)]) rfl ?_
                  refine aw_goto (tgt := 50) hO dX6_assign_146 rfl ?_
                  refine aw_fg (ls' := [some (vR 77), some (vR 27), some (vI ((t : Nat) : Int)), some (vI free), some (vI row), some (vI sum), some (vI left), some (vI (ν.1 16 (3 * t + 2))), some (vI ((i + 1 : Nat) : Int)), none]) ⟨rfl, rfl, rfl, rfl, rfl, rfl, rfl, rfl, rfl, trivial⟩ ?_
                  exact ihd (i + 1) m2 (by omega) (by rw [wkL, if_neg hno]; exact hm2) (by rw [wkL, if_neg hno]; exact hs4)
                · have hyes : wkP ν t gone i = true := by
                    have q2 : hasB free i = true := decide_eq_true c106
                    rw [hfi] at q2
                    unfold wkP
                    simp only [Bool.and_eq_true] at q2 ⊢
                    refine ⟨q2.1, q2.2, ?_⟩
                    by_cases q3 : canW ν i t = true
                    · exact q3
                    · rw [if_neg q3] at hz; exact absurd hz c96
                  refine aw_aload_n hO dX6_assign_109 rfl rfl ?_
                  refine aw_aload_n hO dX6_assign_110 rfl rfl ?_
                  refine aw_iload_n hO dX6_assign_111 rfl rfl ?_
                  refine aw_iconst hO dX6_assign_112 rfl ?_
                  refine aw_iadd hO dX6_assign_113 rfl ?_
                  refine aw_iload_n hO dX6_assign_114 rfl rfl ?_
                  refine aw_iconst hO dX6_assign_115 rfl ?_
                  refine aw_iload hO dX6_assign_116 rfl rfl ?_
                  refine aw_ishl hO dX6_assign_118 rfl ?_
                  refine aw_iconst hO dX6_assign_119 rfl ?_
                  refine aw_ixor hO dX6_assign_120 rfl ?_
                  refine aw_iand hO dX6_assign_121 rfl ?_
                  refine aw_bipush hO dX6_assign_122 rfl (by decide) (by decide) ?_
                  refine aw_iload hO dX6_assign_124 rfl rfl ?_
                  refine aw_imul hO dX6_assign_126 rfl ?_
                  refine aw_iload hO dX6_assign_127 rfl rfl ?_
                  refine aw_iadd hO dX6_assign_129 rfl ?_
                  refine aw_iload hO dX6_assign_130 rfl rfl ?_
                  refine aw_iload hO dX6_assign_132 rfl rfl ?_
                  refine aw_iadd hO dX6_assign_134 rfl ?_
                  refine aw_iload hO dX6_assign_135 rfl rfl ?_
                  refine aw_iload hO dX6_assign_137 rfl rfl ?_
                  refine aw_isub hO dX6_assign_139 rfl ?_
                  refine aw_callVV (as := [vR 27, vI (((t + 1) : Nat) : Int), vI (bAnd free (bXor (bShl 1 ((i : Nat) : Int)) (-1))), vI ((10 * row) + ((i : Nat) : Int)), vI (sum + (ν.1 16 (3 * t + 2))), vI (left - (ν.1 16 (3 * t + 2)))]) (st := []) hO dX6_assign_140 rfl (lw_t5 21 rfl rfl) kX6_assign (T := TX6) rfl (by decide) rfl (ih (t + 1) (bAnd free (bXor (bShl 1 ((i : Nat) : Int)) (-1))) (bOr gone (bShl 1 ((i : Nat) : Int))) (10 * row + (i : Int)) (sum + ν.1 16 (3 * t + 2)) (left - ν.1 16 (3 * t + 2)) _ m2 (by omega) (hfg.take hnp.2 (by omega)) (by omega) (by rw [hp10]; omega) (by omega) (by omega) (by omega) hs4 hm2) (by omega) rfl rfl rfl (Nat.le_of_ble_eq_true rfl) (fun μ7 hq8 => ?_)
                  have hmF := hq8
                  refine aw_iinc (ls' := [some (vR 77), some (vR 27), some (vI ((t : Nat) : Int)), some (vI free), some (vI row), some (vI sum), some (vI left), some (vI (ν.1 16 (3 * t + 2))), some (vI (((i : Nat) : Int) + 1)), some (vI z)]) hO dX6_assign_143 rfl rfl rfl rfl ?_
                  refine aw_lsq (ls' := [some (vR 77), some (vR 27), some (vI ((t : Nat) : Int)), some (vI free), some (vI row), some (vI sum), some (vI left), some (vI (ν.1 16 (3 * t + 2))), some (vI (((i + 1) : Nat) : Int)), some (vI z)]) rfl ?_
                  refine aw_goto (tgt := 50) hO dX6_assign_146 rfl ?_
                  refine aw_fg (ls' := [some (vR 77), some (vR 27), some (vI ((t : Nat) : Int)), some (vI free), some (vI row), some (vI sum), some (vI left), some (vI (ν.1 16 (3 * t + 2))), some (vI ((i + 1 : Nat) : Int)), none]) ⟨rfl, rfl, rfl, rfl, rfl, rfl, rfl, rfl, rfl, trivial⟩ ?_
                  exact ihd (i + 1) μ7 (by omega) (by rw [wkL, if_pos hyes, hR]; rw [hR] at hmF; exact hmF) (by rw [wkL, if_pos hyes, hR]; rw [hR] at hs4; exact (wkN_I h.B c (t + 1) _ _ _ _ (by omega) (by omega) (by rw [hp10]; omega) (by omega) (by omega) hs4).1)
            refine aw_iload hO dX6_assign_50 rfl rfl ?_
            refine aw_aload_n hO dX6_assign_52 rfl rfl ?_
            refine gC_X6_29_77 hO dX6_assign_53 rfl ?_
            refine gC_X6_94_25 hO dX6_assign_56 rfl ?_
            refine aw_cg (h.fq hm2.qs).z.T.n ?_
            refine aw_icmp_ge (tgt := 149) hO dX6_assign_59 rfl rfl (inRn (by omega)) ⟨by omega, by omega⟩ (fun c59 => ?_) (fun c59 => ?_)
            · exact absurd c59 (by omega)
            · refine aw_aload_n hO dX6_assign_62 rfl rfl ?_
              refine gC_X6_29_77 hO dX6_assign_63 rfl ?_
              refine aw_iload hO dX6_assign_66 rfl rfl ?_
              refine aw_aload_n hO dX6_assign_68 rfl rfl ?_
              refine gC_X6_29_77 hO dX6_assign_69 rfl ?_
              refine aw_iload_n hO dX6_assign_72 rfl rfl ?_
              refine aw_callVI (as := [vI ((t : Nat) : Int)]) (st := [vI ((i : Nat) : Int), vR 25]) hO dX6_assign_73 rfl (lw_t5 26 rfl rfl) kX9_asksFor (T := TX9) rfl (by decide) rfl (cJ_asksFor (h.fq hm2.qs).z (t := t) (by omega)) (by omega) rfl rfl rfl (Nat.le_of_ble_eq_true rfl) ?_
              refine aw_cg (Int.toNat_of_nonneg hg.1.1).symm ?_
              refine aw_callVI (as := [vI ((i : Nat) : Int), vI (((ν.1 16 (3 * t)).toNat : Nat) : Int)]) (st := []) hO dX6_assign_76 rfl (lw_t5 27 rfl rfl) kX9_trait (T := TX9) rfl (by decide) rfl (cJ_trait (h.fq hm2.qs).z (p := i) (k := (ν.1 16 (3 * t)).toNat) (by omega) (by omega)) (by omega) rfl rfl rfl (Nat.le_of_ble_eq_true rfl) ?_
              refine aw_aload_n hO dX6_assign_79 rfl rfl ?_
              refine aw_iload_n hO dX6_assign_80 rfl rfl ?_
              refine aw_callVI (as := [vI ((t : Nat) : Int)]) (st := [vI (ν.1 15 (4 * i + ((ν.1 16 (3 * t)).toNat)))]) hO dX6_assign_81 rfl (lw_t5 28 rfl rfl) kX7_asks (T := TX7) rfl (by decide) rfl (cJ_asks (h.fq hm2.qs).ob (h.fq hm2.qs).S (p := t) (by omega)) (by omega) rfl rfl rfl (Nat.le_of_ble_eq_true rfl) ?_
              refine aw_icmp_lt (tgt := 91) hO dX6_assign_84 rfl rfl ⟨by omega, by omega⟩ ⟨by omega, by omega⟩ (fun c84 => ?_) (fun c84 => ?_)
              · refine aw_iconst hO dX6_assign_91 rfl ?_
                exact k92 _ (by rw [hcw, if_neg (by simp only [decide_eq_true_eq]; omega)])
              · refine aw_iconst hO dX6_assign_87 rfl ?_
                refine aw_goto (tgt := 92) hO dX6_assign_88 rfl ?_
                exact k92 _ (by rw [hcw, if_pos (by simp only [decide_eq_true_eq]; omega)])
        refine aw_lsq (ls' := [some (vR 77), some (vR 27), some (vI ((t : Nat) : Int)), some (vI free), some (vI row), some (vI sum), some (vI left), some (vI (ν.1 16 (3 * t + 2))), some (vI ((0 : Nat) : Int)), none]) rfl ?_
        exact lp (ν.1 0 25).toNat 0 m (by omega) hm hs
      · exact absurd ⟨by omega, by omega⟩ c21
    · refine aw_vret hO dX6_assign_12 ?_
      exact ⟨rfl, by rw [wkN_stay h.B (c + 1) t gone row sum s (by omega) (by rw [← hl]; omega)]; exact hm⟩
theorem dX6_shareOut_0 : decode cX6_shareOut 0 = .ok (.iconst 0, 1) := by decide +kernel
theorem dX6_shareOut_1 : decode cX6_shareOut 1 = .ok (.istore_n 2, 1) := by decide +kernel
theorem dX6_shareOut_2 : decode cX6_shareOut 2 = .ok (.iconst 0, 1) := by decide +kernel
theorem dX6_shareOut_3 : decode cX6_shareOut 3 = .ok (.istore_n 3, 1) := by decide +kernel
theorem dX6_shareOut_4 : decode cX6_shareOut 4 = .ok (.iload_n 3, 1) := by decide +kernel
theorem dX6_shareOut_5 : decode cX6_shareOut 5 = .ok (.aload_n 0, 1) := by decide +kernel
theorem dX6_shareOut_6 : decode cX6_shareOut 6 = .ok (.getfield 29, 3) := by decide +kernel
theorem dX6_shareOut_9 : decode cX6_shareOut 9 = .ok (.getfield 105, 3) := by decide +kernel
theorem dX6_shareOut_12 : decode cX6_shareOut 12 = .ok (.if_icmp .ge 20, 3) := by decide +kernel
theorem dX6_shareOut_15 : decode cX6_shareOut 15 = .ok (.iload_n 2, 1) := by decide +kernel
theorem dX6_shareOut_16 : decode cX6_shareOut 16 = .ok (.aload_n 0, 1) := by decide +kernel
theorem dX6_shareOut_17 : decode cX6_shareOut 17 = .ok (.getfield 29, 3) := by decide +kernel
theorem dX6_shareOut_20 : decode cX6_shareOut 20 = .ok (.iload_n 3, 1) := by decide +kernel
theorem dX6_shareOut_21 : decode cX6_shareOut 21 = .ok (.invokevirtual 108, 3) := by decide +kernel
theorem dX6_shareOut_24 : decode cX6_shareOut 24 = .ok (.iadd, 1) := by decide +kernel
theorem dX6_shareOut_25 : decode cX6_shareOut 25 = .ok (.istore_n 2, 1) := by decide +kernel
theorem dX6_shareOut_26 : decode cX6_shareOut 26 = .ok (.iinc 3 1, 3) := by decide +kernel
theorem dX6_shareOut_29 : decode cX6_shareOut 29 = .ok (.goto (-25), 3) := by decide +kernel
theorem dX6_shareOut_32 : decode cX6_shareOut 32 = .ok (.aload_n 0, 1) := by decide +kernel
theorem dX6_shareOut_33 : decode cX6_shareOut 33 = .ok (.iconst (-1), 1) := by decide +kernel
theorem dX6_shareOut_34 : decode cX6_shareOut 34 = .ok (.putfield 22, 3) := by decide +kernel
theorem dX6_shareOut_37 : decode cX6_shareOut 37 = .ok (.aload_n 0, 1) := by decide +kernel
theorem dX6_shareOut_38 : decode cX6_shareOut 38 = .ok (.iconst (-1), 1) := by decide +kernel
theorem dX6_shareOut_39 : decode cX6_shareOut 39 = .ok (.putfield 26, 3) := by decide +kernel
theorem dX6_shareOut_42 : decode cX6_shareOut 42 = .ok (.aload_n 0, 1) := by decide +kernel
theorem dX6_shareOut_43 : decode cX6_shareOut 43 = .ok (.aload_n 1, 1) := by decide +kernel
theorem dX6_shareOut_44 : decode cX6_shareOut 44 = .ok (.iconst 0, 1) := by decide +kernel
theorem dX6_shareOut_45 : decode cX6_shareOut 45 = .ok (.aload_n 0, 1) := by decide +kernel
theorem dX6_shareOut_46 : decode cX6_shareOut 46 = .ok (.getfield 33, 3) := by decide +kernel
theorem dX6_shareOut_49 : decode cX6_shareOut 49 = .ok (.aload_n 1, 1) := by decide +kernel
theorem dX6_shareOut_50 : decode cX6_shareOut 50 = .ok (.invokevirtual 66, 3) := by decide +kernel
theorem dX6_shareOut_53 : decode cX6_shareOut 53 = .ok (.iconst 0, 1) := by decide +kernel
theorem dX6_shareOut_54 : decode cX6_shareOut 54 = .ok (.iconst 0, 1) := by decide +kernel
theorem dX6_shareOut_55 : decode cX6_shareOut 55 = .ok (.iload_n 2, 1) := by decide +kernel
theorem dX6_shareOut_56 : decode cX6_shareOut 56 = .ok (.invokevirtual 111, 3) := by decide +kernel
theorem dX6_shareOut_59 : decode cX6_shareOut 59 = .ok (.return_, 1) := by decide +kernel
theorem grs_s (ν : Mm) : ∀ c t, grs ν (c + 1) t = grs ν c t + ν.1 16 (3 * (t + c) + 2)
  | 0, t => by simp [grs]
  | c + 1, t => by rw [grs, grs_s ν c (t + 1), grs, show t + 1 + c = t + (c + 1) by omega]; omega
set_option maxRecDepth 100000 in
theorem gC_X6_105_25 {Q : Option AV → Mm → Prop} {K : KT} {cc : ByteArray} {nL d : Nat} {ret : Option FieldType} {pc n : Nat} {ls : List (Option AV)} {st : List AV} {μ : Mm} (hO : KOk PC Q K cc RX6 nL d ret) (hd : decode cc pc = .ok (.getfield 105, 3)) (hn : pc + 3 = n) (kk : AW K n ls (vI (μ.1 25 2) :: st) μ) : AW K pc ls (vR 25 :: st) μ := aw_getN (f := 2) hO hd hn okX9 (by decide) (lw_t1n 88 rfl rfl) (by decide) rfl rfl rfl kk
set_option maxHeartbeats 4000000 in
set_option maxRecDepth 100000 in
theorem cJ_shareOut {μ ν : Mm} (h : JR μ 27 ν) : CtV PC 10 yX6_shareOut cX6_shareOut 4 none [vR 77, vR 27] μ (fun m => mQ μ (wkN ν (ν.1 0 26).toNat 0 0 0 0 (-1, -1)) m) := by
  refine ct_intro [some (vR 77), some (vR 27), none, none] RX6 (by decide) rfl XCo rfl (Nat.le_of_ble_eq_true rfl) (fun K hO => ?_)
  have hs := h.ob
  have hnp := h.B.np
  have hnt := h.B.nt
  have lp : ∀ (c : Nat) (i : Nat) (x : Int), ((i : Int) + c = ν.1 0 26) → (x = grs ν i 0) → AW K 4 [some (vR 77), some (vR 27), some (vI x), some (vI ((i : Nat) : Int))] [] μ := by
    intro c
    induction c with
    | zero =>
      intro i x hi hx
      refine aw_iload_n hO dX6_shareOut_4 rfl rfl ?_
      refine aw_aload_n hO dX6_shareOut_5 rfl rfl ?_
      refine gC_X6_29_77 hO dX6_shareOut_6 rfl ?_
      refine gC_X6_105_25 hO dX6_shareOut_9 rfl ?_
      refine aw_cg h.z.T.t ?_
      refine aw_icmp_ge (tgt := 32) hO dX6_shareOut_12 rfl rfl (inRn (by omega)) ⟨by omega, by omega⟩ (fun c12 => ?_) (fun c12 => ?_)
      · refine aw_aload_n hO dX6_shareOut_32 rfl rfl ?_
        refine aw_iconst hO dX6_shareOut_33 rfl ?_
        refine pC_X6_22_77 hO dX6_shareOut_34 rfl ?_
        refine aw_mm (fun μ1 e_μ1 => ?_)
        refine aw_aload_n hO dX6_shareOut_37 rfl rfl ?_
        refine aw_iconst hO dX6_shareOut_38 rfl ?_
        refine pC_X6_26_77 hO dX6_shareOut_39 rfl ?_
        refine aw_mm (fun μ2 e_μ2 => ?_)
        refine aw_aload_n hO dX6_shareOut_42 rfl rfl ?_
        refine aw_aload_n hO dX6_shareOut_43 rfl rfl ?_
        refine aw_iconst hO dX6_shareOut_44 rfl ?_
        refine aw_aload_n hO dX6_shareOut_45 rfl rfl ?_
        refine gC_X6_33_77 hO dX6_shareOut_46 rfl ?_
        refine aw_aload_n hO dX6_shareOut_49 rfl rfl ?_
        have hFp : Fr qS μ μ2 := by rw [e_μ2, e_μ1]; exact (Fr.rf.st (Or.inr (Or.inr (Or.inr ⟨rfl, Or.inl rfl⟩))) _).st (Or.inr (Or.inr (Or.inr ⟨rfl, Or.inr rfl⟩))) _
        refine aw_callVI (as := [vR 27]) (st := [vI 0, vR 27, vR 77]) hO dX6_shareOut_50 rfl (lw_t4 181 rfl rfl) kX3_inTown (T := TX3) rfl (by decide) rfl (cJ_inTown (h.fq hFp)) (by omega) rfl rfl rfl (Nat.le_of_ble_eq_true rfl) ?_
        refine aw_iconst hO dX6_shareOut_53 rfl ?_
        refine aw_iconst hO dX6_shareOut_54 rfl ?_
        refine aw_iload_n hO dX6_shareOut_55 rfl rfl ?_
        have hm2 : mQ μ (-1, -1) μ2 := by rw [e_μ2, e_μ1]; exact ⟨by rw [mst_ni (by decide), mst_eq], mst_eq, (Fr.st (S := fun k i => k = 77 ∧ (i = 4 ∨ i = 5)) Fr.rf ⟨rfl, Or.inl rfl⟩ _).st ⟨rfl, Or.inr rfl⟩ _⟩
        refine aw_callVV (as := [vR 27, vI ((0 : Nat) : Int), vI (inT ν), vI 0, vI 0, vI x]) (st := []) hO dX6_shareOut_56 rfl (lw_t5 21 rfl rfl) kX6_assign (T := TX6) rfl (by decide) rfl (cJ_assign h (ν.1 0 26).toNat 0 (inT ν) 0 0 0 x (-1, -1) μ2 (by omega) (fun q hq => by rw [hasB_inT h.B (by omega), hasB_0 (by omega)]; simp [hq]) (by omega) (by decide) (by omega) (by omega) (by rw [hx, show i = (ν.1 0 26).toNat by omega]) ⟨by decide, by decide, fun q => absurd q (by decide)⟩ hm2) (by omega) rfl rfl rfl (Nat.le_of_ble_eq_true rfl) (fun μ4 hq5 => ?_)
        have hmF := hq5
        refine aw_vret hO dX6_shareOut_59 ?_
        exact ⟨rfl, hmF⟩
      · exact absurd c12 (by omega)
    | succ c ih =>
      intro i x hi hx
      refine aw_iload_n hO dX6_shareOut_4 rfl rfl ?_
      refine aw_aload_n hO dX6_shareOut_5 rfl rfl ?_
      refine gC_X6_29_77 hO dX6_shareOut_6 rfl ?_
      refine gC_X6_105_25 hO dX6_shareOut_9 rfl ?_
      refine aw_cg h.z.T.t ?_
      refine aw_icmp_ge (tgt := 32) hO dX6_shareOut_12 rfl rfl (inRn (by omega)) ⟨by omega, by omega⟩ (fun c12 => ?_) (fun c12 => ?_)
      · exact absurd c12 (by omega)
      · refine aw_iload_n hO dX6_shareOut_15 rfl rfl ?_
        refine aw_aload_n hO dX6_shareOut_16 rfl rfl ?_
        refine gC_X6_29_77 hO dX6_shareOut_17 rfl ?_
        refine aw_iload_n hO dX6_shareOut_20 rfl rfl ?_
        refine aw_callVI (as := [vI ((i : Nat) : Int)]) (st := [vI x]) hO dX6_shareOut_21 rfl (lw_t5 20 rfl rfl) kX9_gravity (T := TX9) rfl (by decide) rfl (cJ_gravity h.z (t := i) (by omega)) (by omega) rfl rfl rfl (Nat.le_of_ble_eq_true rfl) ?_
        refine aw_iadd hO dX6_shareOut_24 rfl ?_
        refine aw_istore_n (ls' := [some (vR 77), some (vR 27), some (vI (x + (ν.1 16 (3 * i + 2)))), some (vI ((i : Nat) : Int))]) hO dX6_shareOut_25 rfl (Nat.le_of_ble_eq_true rfl) rfl rfl ?_
        refine aw_iinc (ls' := [some (vR 77), some (vR 27), some (vI (x + (ν.1 16 (3 * i + 2)))), some (vI (((i : Nat) : Int) + 1))]) hO dX6_shareOut_26 rfl rfl rfl rfl ?_
        refine aw_lsq (ls' := [some (vR 77), some (vR 27), some (vI (x + (ν.1 16 (3 * i + 2)))), some (vI (((i + 1) : Nat) : Int))]) rfl ?_
        refine aw_goto (tgt := 4) hO dX6_shareOut_29 rfl ?_
        refine aw_lsq (ls' := [some (vR 77), some (vR 27), some (vI (x + (ν.1 16 (3 * i + 2)))), some (vI (((i + 1) : Nat) : Int))]) rfl ?_
        exact ih (i + 1) _ (by omega) (by rw [grs_s, hx, Nat.zero_add])
  refine aw_iconst hO dX6_shareOut_0 rfl ?_
  refine aw_istore_n (ls' := [some (vR 77), some (vR 27), some (vI 0), none]) hO dX6_shareOut_1 rfl (Nat.le_of_ble_eq_true rfl) rfl rfl ?_
  refine aw_iconst hO dX6_shareOut_2 rfl ?_
  refine aw_istore_n (ls' := [some (vR 77), some (vR 27), some (vI 0), some (vI 0)]) hO dX6_shareOut_3 rfl (Nat.le_of_ble_eq_true rfl) rfl rfl ?_
  refine aw_lsq (ls' := [some (vR 77), some (vR 27), some (vI 0), some (vI ((0 : Nat) : Int))]) rfl ?_
  exact lp (ν.1 0 26).toNat 0 0 (by omega) rfl
theorem wk_same {ν : Mm} (h : MB ν) (x : Int) : wkM ν (ν.1 0 26).toNat 0 0 0 0 (-1, x) = wkN ν (ν.1 0 26).toNat 0 0 0 0 (-1, -1) := by
  have hnt := h.nt
  have e := wkM_N h (ν.1 0 26).toNat 0 0 0 0 (-1, x) (by omega) (by decide) (by decide)
  have hI := wkN_I h (ν.1 0 26).toNat 0 0 0 0 (-1, -1) (by omega) (by decide) (by decide) (by decide) (by decide) ⟨by decide, by decide, fun q => absurd q (by decide)⟩
  rw [show nrm (-1, x) = (-1, -1) from rfl] at e
  rw [← e] at hI ⊢
  have h1 := hI.1.2.2 hI.2
  unfold nrm at h1 ⊢
  split
  · rename_i q; rw [if_pos q] at h1; exact absurd h1 (by decide)
  · rfl
