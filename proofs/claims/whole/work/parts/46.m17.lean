
/-- of what holds below n in order: the i-th, or how many (i -1) -/
def fndG (P : Nat → Bool) (cd : Nat → Int) (i : Int) : Nat → Option Int
  | 0 => none
  | k + 1 => (fndG P cd i k).or (if P k = true ∧ (cntB P k : Int) = i then some (cd k) else none)
def selG (P : Nat → Bool) (cd : Nat → Int) (i : Int) (n : Nat) : Int := (fndG P cd i n).getD (if i = -1 then (cntB P n : Int) else -1)
theorem fndG_mono {P : Nat → Bool} {cd : Nat → Int} {i r : Int} {k : Nat} (h : fndG P cd i k = some r) : ∀ n, k ≤ n → fndG P cd i n = some r := by
  intro n hn
  induction n with
  | zero => rw [show (0 : Nat) = k by omega]; exact h
  | succ n ih =>
    by_cases e : k = n + 1
    · rw [← e]; exact h
    · rw [fndG, ih (by omega)]; rfl
theorem selG_hit {P : Nat → Bool} {cd : Nat → Int} {i : Int} {k n : Nat} (h0 : fndG P cd i k = none) (h1 : P k = true) (h2 : (cntB P k : Int) = i) (hn : k < n) : selG P cd i n = cd k := by
  have h : fndG P cd i (k + 1) = some (cd k) := by rw [fndG, h0, if_pos ⟨h1, h2⟩]; rfl
  unfold selG
  rw [fndG_mono h n (by omega)]
  rfl
theorem fndG_n1 {P : Nat → Bool} {cd : Nat → Int} {i : Int} {k : Nat} (h0 : fndG P cd i k = none) (h1 : ¬ P k = true) : fndG P cd i (k + 1) = none := by rw [fndG, h0, if_neg (fun q => h1 q.1)]; rfl
theorem fndG_n2 {P : Nat → Bool} {cd : Nat → Int} {i : Int} {k : Nat} (h0 : fndG P cd i k = none) (h2 : ¬ (cntB P k : Int) = i) : fndG P cd i (k + 1) = none := by rw [fndG, h0, if_neg (fun q => h2 q.2)]; rfl
theorem cntB_t {P : Nat → Bool} {k : Nat} (h : P k = true) : cntB P (k + 1) = cntB P k + 1 := by rw [cntB, if_pos h]
theorem cntB_f {P : Nat → Bool} {k : Nat} (h : ¬ P k = true) : cntB P (k + 1) = cntB P k := by rw [cntB, if_neg h]; rfl
/-- the game of two -/
def gamS (f : Nat → Int) (i j : Nat) (x y : Int) : Nat → Int := fu (fu (fu (fu f i (min 9 (f i + 1))) j (min 9 (f j + 1))) (6 + 2 * i) x) (6 + 2 * j) y
def gamM (μ : Mm) (i j : Nat) (x y w : Int) : Int := (if pickM (wN μ (gamS (μ.1 17) i j x y)) (μ.1 0 25).toNat = (if w = 0 then (i : Int) else (j : Int)) then 6 else 0) - (if w = 0 then x else y)
theorem gamS_ok {f : Nat → Int} (h : NowOK f) {i j : Nat} (hi : i < 6) (hj : j < 6) {x y : Int} (hx : 0 ≤ x ∧ x ≤ 3) (hy : 0 ≤ y ∧ y ≤ 3) : NowOK (gamS f i j x y) := by
  have h1 := h.met hi
  have h2 := h.met hj
  unfold gamS
  exact (((h.upd (i := i) (fun _ => by omega) (by omega) (by omega) (by omega) (by omega) (by omega) (by omega)).upd (i := j) (fun _ => by omega) (by omega) (by omega) (by omega) (by omega) (by omega) (by omega)).upd (by omega) (fun _ _ => hx) (by omega) (by omega) (by omega) (by omega) (by omega)).upd (by omega) (fun _ _ => hy) (by omega) (by omega) (by omega) (by omega) (by omega)
theorem gamM_rng (μ : Mm) (i j : Nat) {x y : Int} (hx : 0 ≤ x ∧ x ≤ 3) (hy : 0 ≤ y ∧ y ≤ 3) (w : Int) : -3 ≤ gamM μ i j x y w ∧ gamM μ i j x y w ≤ 6 := by
  unfold gamM
  split <;> split <;> omega
def rsK (μ : Mm) (i j : Nat) (x y : Int) (k : Nat) : Bool := decide (gamM μ i j k y 0 ≤ gamM μ i j x y 0 ∧ gamM μ i j x k 1 ≤ gamM μ i j x y 1)
def allB (P : Nat → Bool) : Nat → Bool
  | 0 => true
  | k + 1 => allB P k && P k
theorem allB_t {P : Nat → Bool} {k : Nat} (h0 : allB P k = true) (h : P k = true) : allB P (k + 1) = true := by rw [allB, h0, h]; rfl
theorem allB_f {P : Nat → Bool} {k : Nat} (h : ¬ P k = true) : ∀ n, k < n → allB P n = false := by
  intro n hn
  induction n with
  | zero => omega
  | succ n ih =>
    by_cases e : k = n
    · rw [allB, ← e, Bool.eq_false_iff.mpr h, Bool.and_false]
    · rw [allB, ih (by omega)]; rfl
def rstB (μ : Mm) (i j : Nat) (x y : Int) : Bool := allB (rsK μ i j x y) 4
theorem dX12_gameOf_0 : decode cX12_gameOf 0 = .ok (.aload_n 0, 1) := by decide +kernel
theorem dX12_gameOf_1 : decode cX12_gameOf 1 = .ok (.invokevirtual 358, 3) := by decide +kernel
theorem dX12_gameOf_4 : decode cX12_gameOf 4 = .ok (.aload_n 0, 1) := by decide +kernel
theorem dX12_gameOf_5 : decode cX12_gameOf 5 = .ok (.iload_n 1, 1) := by decide +kernel
theorem dX12_gameOf_6 : decode cX12_gameOf 6 = .ok (.invokevirtual 361, 3) := by decide +kernel
theorem dX12_gameOf_9 : decode cX12_gameOf 9 = .ok (.aload_n 0, 1) := by decide +kernel
theorem dX12_gameOf_10 : decode cX12_gameOf 10 = .ok (.iload_n 2, 1) := by decide +kernel
theorem dX12_gameOf_11 : decode cX12_gameOf 11 = .ok (.invokevirtual 361, 3) := by decide +kernel
theorem dX12_gameOf_14 : decode cX12_gameOf 14 = .ok (.aload_n 0, 1) := by decide +kernel
theorem dX12_gameOf_15 : decode cX12_gameOf 15 = .ok (.getfield 58, 3) := by decide +kernel
theorem dX12_gameOf_18 : decode cX12_gameOf 18 = .ok (.bipush 6, 2) := by decide +kernel
theorem dX12_gameOf_20 : decode cX12_gameOf 20 = .ok (.iconst 2, 1) := by decide +kernel
theorem dX12_gameOf_21 : decode cX12_gameOf 21 = .ok (.iload_n 1, 1) := by decide +kernel
theorem dX12_gameOf_22 : decode cX12_gameOf 22 = .ok (.imul, 1) := by decide +kernel
theorem dX12_gameOf_23 : decode cX12_gameOf 23 = .ok (.iadd, 1) := by decide +kernel
theorem dX12_gameOf_24 : decode cX12_gameOf 24 = .ok (.iload_n 3, 1) := by decide +kernel
theorem dX12_gameOf_25 : decode cX12_gameOf 25 = .ok (.iastore, 1) := by decide +kernel
theorem dX12_gameOf_26 : decode cX12_gameOf 26 = .ok (.aload_n 0, 1) := by decide +kernel
theorem dX12_gameOf_27 : decode cX12_gameOf 27 = .ok (.getfield 58, 3) := by decide +kernel
theorem dX12_gameOf_30 : decode cX12_gameOf 30 = .ok (.bipush 6, 2) := by decide +kernel
theorem dX12_gameOf_32 : decode cX12_gameOf 32 = .ok (.iconst 2, 1) := by decide +kernel
theorem dX12_gameOf_33 : decode cX12_gameOf 33 = .ok (.iload_n 2, 1) := by decide +kernel
theorem dX12_gameOf_34 : decode cX12_gameOf 34 = .ok (.imul, 1) := by decide +kernel
theorem dX12_gameOf_35 : decode cX12_gameOf 35 = .ok (.iadd, 1) := by decide +kernel
theorem dX12_gameOf_36 : decode cX12_gameOf 36 = .ok (.iload 4, 2) := by decide +kernel
theorem dX12_gameOf_38 : decode cX12_gameOf 38 = .ok (.iastore, 1) := by decide +kernel
theorem dX12_gameOf_39 : decode cX12_gameOf 39 = .ok (.aload_n 0, 1) := by decide +kernel
theorem dX12_gameOf_40 : decode cX12_gameOf 40 = .ok (.invokevirtual 295, 3) := by decide +kernel
theorem dX12_gameOf_43 : decode cX12_gameOf 43 = .ok (.iload 5, 2) := by decide +kernel
theorem dX12_gameOf_45 : decode cX12_gameOf 45 = .ok (.ifCond .ne 7, 3) := by decide +kernel
theorem dX12_gameOf_48 : decode cX12_gameOf 48 = .ok (.iload_n 1, 1) := by decide +kernel
theorem dX12_gameOf_49 : decode cX12_gameOf 49 = .ok (.goto 4, 3) := by decide +kernel
theorem dX12_gameOf_52 : decode cX12_gameOf 52 = .ok (.iload_n 2, 1) := by decide +kernel
theorem dX12_gameOf_53 : decode cX12_gameOf 53 = .ok (.if_icmp .ne 8, 3) := by decide +kernel
theorem dX12_gameOf_56 : decode cX12_gameOf 56 = .ok (.bipush 6, 2) := by decide +kernel
theorem dX12_gameOf_58 : decode cX12_gameOf 58 = .ok (.goto 4, 3) := by decide +kernel
theorem dX12_gameOf_61 : decode cX12_gameOf 61 = .ok (.iconst 0, 1) := by decide +kernel
theorem dX12_gameOf_62 : decode cX12_gameOf 62 = .ok (.iload 5, 2) := by decide +kernel
theorem dX12_gameOf_64 : decode cX12_gameOf 64 = .ok (.ifCond .ne 7, 3) := by decide +kernel
theorem dX12_gameOf_67 : decode cX12_gameOf 67 = .ok (.iload_n 3, 1) := by decide +kernel
theorem dX12_gameOf_68 : decode cX12_gameOf 68 = .ok (.goto 5, 3) := by decide +kernel
theorem dX12_gameOf_71 : decode cX12_gameOf 71 = .ok (.iload 4, 2) := by decide +kernel
theorem dX12_gameOf_73 : decode cX12_gameOf 73 = .ok (.isub, 1) := by decide +kernel
theorem dX12_gameOf_74 : decode cX12_gameOf 74 = .ok (.istore 6, 2) := by decide +kernel
theorem dX12_gameOf_76 : decode cX12_gameOf 76 = .ok (.aload_n 0, 1) := by decide +kernel
theorem dX12_gameOf_77 : decode cX12_gameOf 77 = .ok (.invokevirtual 364, 3) := by decide +kernel
theorem dX12_gameOf_80 : decode cX12_gameOf 80 = .ok (.iload 6, 2) := by decide +kernel
theorem dX12_gameOf_82 : decode cX12_gameOf 82 = .ok (.ireturn, 1) := by decide +kernel
set_option maxHeartbeats 4000000 in
set_option maxRecDepth 100000 in
theorem ctM_gameOf (μ n : Mm) (h : MG μ) (hN : Scr μ n) {i j x y : Nat} (hi : i < 6) (hj : j < 6) (hij : i ≠ j) (hx : x ≤ 3) (hy : y ≤ 3) {w : Int} (hw : InR w) : CtE PM 8 yX12_gameOf cX12_gameOf 7 (some .int) [vR 0, vI ((i : Nat) : Int), vI ((j : Nat) : Int), vI ((x : Nat) : Int), vI ((y : Nat) : Int), vI w] n (fun r m => r = gamM μ i j x y w ∧ Scr μ m) := by
  refine ct_intro [some (vR 0), some (vI ((i : Nat) : Int)), some (vI ((j : Nat) : Int)), some (vI ((x : Nat) : Int)), some (vI ((y : Nat) : Int)), some (vI w), none] RX12 (by decide) rfl XM rfl (Nat.le_of_ble_eq_true rfl) (fun K hO => ?_)
  refine aw_aload_n hO dX12_gameOf_0 rfl rfl ?_
  refine aw_callVV (as := []) (st := []) hO dX12_gameOf_1 rfl (lw_t7 200 rfl rfl) kX12_putAside (T := TX12) rfl (by decide) rfl (ctM_putAside n) (by decide) rfl rfl rfl (Nat.le_of_ble_eq_true rfl) (fun μ2 hq3 => ?_)
  have hA_μ2 : Ap μ (μ.1 17) μ2 := by rw [hq3]; exact Ap.put' hN
  refine aw_aload_n hO dX12_gameOf_4 rfl rfl ?_
  refine aw_iload_n hO dX12_gameOf_5 rfl rfl ?_
  refine aw_callVV (as := [vI ((i : Nat) : Int)]) (st := []) hO dX12_gameOf_6 rfl (lw_t7 204 rfl rfl) kX12_meetMore (T := TX12) rfl (by decide) rfl (ctM_meetMore μ2 (MG_W (MG_N h h.1.now) hA_μ2.E).1 (p := i) (by omega)) (by decide) rfl rfl rfl (Nat.le_of_ble_eq_true rfl) (fun μ5 hq6 => ?_)
  have hA_μ5 : Ap μ (fu (μ.1 17) i (min 9 ((μ.1 17) i + 1))) μ5 := by rw [hq6, congrFun hA_μ2.2.2.1]; exact hA_μ2.wr _ _
  refine aw_aload_n hO dX12_gameOf_9 rfl rfl ?_
  refine aw_iload_n hO dX12_gameOf_10 rfl rfl ?_
  refine aw_callVV (as := [vI ((j : Nat) : Int)]) (st := []) hO dX12_gameOf_11 rfl (lw_t7 204 rfl rfl) kX12_meetMore (T := TX12) rfl (by decide) rfl (ctM_meetMore μ5 (MG_W (MG_N h (h.1.now.upd (i := i) (fun _ => by have := h.1.now.met hi; omega) (by omega) (by omega) (by omega) (by omega) (by omega) (by omega))) hA_μ5.E).1 (p := j) (by omega)) (by decide) rfl rfl rfl (Nat.le_of_ble_eq_true rfl) (fun μ8 hq9 => ?_)
  have hA_μ8 : Ap μ (fu (fu (μ.1 17) i (min 9 ((μ.1 17) i + 1))) j (min 9 (μ.1 17 j + 1))) μ8 := by rw [hq9, congrFun hA_μ5.2.2.1, fu_ne (fun e => hij e.symm)]; exact hA_μ5.wr _ _
  refine aw_aload_n hO dX12_gameOf_14 rfl rfl ?_
  refine gM_now hO dX12_gameOf_15 rfl ?_
  refine aw_bipush hO dX12_gameOf_18 rfl (by decide) (by decide) ?_
  refine aw_iconst hO dX12_gameOf_20 rfl ?_
  refine aw_iload_n hO dX12_gameOf_21 rfl rfl ?_
  refine aw_imul hO dX12_gameOf_22 rfl ?_
  refine aw_iadd hO dX12_gameOf_23 rfl ?_
  refine aw_iload_n hO dX12_gameOf_24 rfl rfl ?_
  refine aw_iastn (N := 218) (i := (6 + 2 * i)) hO dX12_gameOf_25 rfl (by decide) rfl (by decide) (by omega) (by omega) ?_
  refine aw_mm (fun μ10 e_μ10 => ?_)
  have hA_μ10 : Ap μ (fu (fu (fu (μ.1 17) i (min 9 ((μ.1 17) i + 1))) j (min 9 (μ.1 17 j + 1))) (6 + 2 * i) ((x : Nat) : Int)) μ10 := by rw [e_μ10]; exact hA_μ8.wr _ _
  refine aw_aload_n hO dX12_gameOf_26 rfl rfl ?_
  refine gM_now hO dX12_gameOf_27 rfl ?_
  refine aw_bipush hO dX12_gameOf_30 rfl (by decide) (by decide) ?_
  refine aw_iconst hO dX12_gameOf_32 rfl ?_
  refine aw_iload_n hO dX12_gameOf_33 rfl rfl ?_
  refine aw_imul hO dX12_gameOf_34 rfl ?_
  refine aw_iadd hO dX12_gameOf_35 rfl ?_
  refine aw_iload hO dX12_gameOf_36 rfl rfl ?_
  refine aw_iastn (N := 218) (i := (6 + 2 * j)) hO dX12_gameOf_38 rfl (by decide) rfl (by decide) (by omega) (by omega) ?_
  refine aw_mm (fun μ11 e_μ11 => ?_)
  have hA_μ11 : Ap μ (fu (fu (fu (fu (μ.1 17) i (min 9 ((μ.1 17) i + 1))) j (min 9 (μ.1 17 j + 1))) (6 + 2 * i) ((x : Nat) : Int)) (6 + 2 * j) ((y : Nat) : Int)) μ11 := by rw [e_μ11]; exact hA_μ10.wr _ _
  refine aw_aload_n hO dX12_gameOf_39 rfl rfl ?_
  have hAf : Ap μ (gamS (μ.1 17) i j x y) μ11 := hA_μ11
  refine aw_callVE (as := []) (st := []) hO dX12_gameOf_40 rfl (lw_t7 141 rfl rfl) kX12_picked (T := TX12) rfl (by decide) rfl (ctM_picked μ11 (MG_W (MG_N h (gamS_ok h.1.now hi hj (by omega) (by omega))) hAf.E)) (by decide) rfl rfl rfl (Nat.le_of_ble_eq_true rfl) (fun v12 μ13 hq14 => ?_)
  obtain ⟨e_v12, s_μ13⟩ := hq14
  rw [pickM_W hAf.E, hAf.E.1.1] at e_v12
  have hA_μ13 := hAf.sc s_μ13
  have q1 := pickM_rng (wN μ (gamS (μ.1 17) i j x y)) (μ.1 0 25).toNat
  have hnp := h.1.np
  have q2 : v12 = -1 ∨ (0 ≤ v12 ∧ v12 < 6) := by rw [e_v12]; rw [show (wN μ (gamS (μ.1 17) i j x y)).1 0 25 = μ.1 0 25 from rfl]; omega
  rw [show (wN μ (gamS (μ.1 17) i j x y)).1 0 25 = μ.1 0 25 from rfl] at e_v12
  refine aw_iload hO dX12_gameOf_43 rfl rfl ?_
  refine aw_if_ne (tgt := 52) hO dX12_gameOf_45 rfl rfl ⟨by omega, by omega⟩ (fun c45 => ?_) (fun c45 => ?_)
  · refine aw_iload_n hO dX12_gameOf_52 rfl rfl ?_
    refine aw_icmp_ne (tgt := 61) hO dX12_gameOf_53 rfl rfl ⟨by omega, by omega⟩ (inRn (by omega)) (fun c53 => ?_) (fun c53 => ?_)
    · refine aw_iconst hO dX12_gameOf_61 rfl ?_
      refine aw_iload hO dX12_gameOf_62 rfl rfl ?_
      refine aw_if_ne (tgt := 71) hO dX12_gameOf_64 rfl rfl ⟨by omega, by omega⟩ (fun c64 => ?_) (fun c64 => ?_)
      · refine aw_iload hO dX12_gameOf_71 rfl rfl ?_
        refine aw_isub hO dX12_gameOf_73 rfl ?_
        refine aw_istore (ls' := [some (vR 0), some (vI ((i : Nat) : Int)), some (vI ((j : Nat) : Int)), some (vI ((x : Nat) : Int)), some (vI ((y : Nat) : Int)), some (vI w), some (vI (0 - ((y : Nat) : Int)))]) hO dX12_gameOf_74 rfl (Nat.le_of_ble_eq_true rfl) rfl rfl ?_
        refine aw_aload_n hO dX12_gameOf_76 rfl rfl ?_
        refine aw_callVV (as := []) (st := []) hO dX12_gameOf_77 rfl (lw_t7 208 rfl rfl) kX12_takeBack (T := TX12) rfl (by decide) rfl (ctM_takeBack μ13) (by decide) rfl rfl rfl (Nat.le_of_ble_eq_true rfl) (fun μ16 hq17 => ?_)
        have hR_μ16 : Scr μ μ16 := by rw [hq17]; exact hA_μ13.back (by intro i hi; unfold gamS; rw [fu_ne (by omega), fu_ne (by omega), fu_ne (by omega), fu_ne (by omega)])
        refine aw_iload hO dX12_gameOf_80 rfl rfl ?_
        refine aw_iret hO dX12_gameOf_82 ?_
        exact ⟨_, rfl, by unfold gamM; rw [if_neg c45, if_neg c45, if_neg (by rw [← e_v12]; exact c53)], hR_μ16⟩
      · first | exact absurd c64 c45 | exact absurd c45 c64
    · refine aw_bipush hO dX12_gameOf_56 rfl (by decide) (by decide) ?_
      refine aw_goto (tgt := 62) hO dX12_gameOf_58 rfl ?_
      refine aw_iload hO dX12_gameOf_62 rfl rfl ?_
      refine aw_if_ne (tgt := 71) hO dX12_gameOf_64 rfl rfl ⟨by omega, by omega⟩ (fun c64 => ?_) (fun c64 => ?_)
      · refine aw_iload hO dX12_gameOf_71 rfl rfl ?_
        refine aw_isub hO dX12_gameOf_73 rfl ?_
        refine aw_istore (ls' := [some (vR 0), some (vI ((i : Nat) : Int)), some (vI ((j : Nat) : Int)), some (vI ((x : Nat) : Int)), some (vI ((y : Nat) : Int)), some (vI w), some (vI (6 - ((y : Nat) : Int)))]) hO dX12_gameOf_74 rfl (Nat.le_of_ble_eq_true rfl) rfl rfl ?_
        refine aw_aload_n hO dX12_gameOf_76 rfl rfl ?_
        refine aw_callVV (as := []) (st := []) hO dX12_gameOf_77 rfl (lw_t7 208 rfl rfl) kX12_takeBack (T := TX12) rfl (by decide) rfl (ctM_takeBack μ13) (by decide) rfl rfl rfl (Nat.le_of_ble_eq_true rfl) (fun μ19 hq20 => ?_)
        have hR_μ19 : Scr μ μ19 := by rw [hq20]; exact hA_μ13.back (by intro i hi; unfold gamS; rw [fu_ne (by omega), fu_ne (by omega), fu_ne (by omega), fu_ne (by omega)])
        refine aw_iload hO dX12_gameOf_80 rfl rfl ?_
        refine aw_iret hO dX12_gameOf_82 ?_
        exact ⟨_, rfl, by unfold gamM; rw [if_neg c45, if_neg c45, if_pos (by rw [← e_v12]; exact c53)], hR_μ19⟩
      · first | exact absurd c64 c45 | exact absurd c45 c64
  · refine aw_iload_n hO dX12_gameOf_48 rfl rfl ?_
    refine aw_goto (tgt := 53) hO dX12_gameOf_49 rfl ?_
    refine aw_icmp_ne (tgt := 61) hO dX12_gameOf_53 rfl rfl ⟨by omega, by omega⟩ (inRn (by omega)) (fun c53 => ?_) (fun c53 => ?_)
    · refine aw_iconst hO dX12_gameOf_61 rfl ?_
      refine aw_iload hO dX12_gameOf_62 rfl rfl ?_
      refine aw_if_ne (tgt := 71) hO dX12_gameOf_64 rfl rfl ⟨by omega, by omega⟩ (fun c64 => ?_) (fun c64 => ?_)
      · first | exact absurd c64 c45 | exact absurd c45 c64
      · refine aw_iload_n hO dX12_gameOf_67 rfl rfl ?_
        refine aw_goto (tgt := 73) hO dX12_gameOf_68 rfl ?_
        refine aw_isub hO dX12_gameOf_73 rfl ?_
        refine aw_istore (ls' := [some (vR 0), some (vI ((i : Nat) : Int)), some (vI ((j : Nat) : Int)), some (vI ((x : Nat) : Int)), some (vI ((y : Nat) : Int)), some (vI w), some (vI (0 - ((x : Nat) : Int)))]) hO dX12_gameOf_74 rfl (Nat.le_of_ble_eq_true rfl) rfl rfl ?_
        refine aw_aload_n hO dX12_gameOf_76 rfl rfl ?_
        refine aw_callVV (as := []) (st := []) hO dX12_gameOf_77 rfl (lw_t7 208 rfl rfl) kX12_takeBack (T := TX12) rfl (by decide) rfl (ctM_takeBack μ13) (by decide) rfl rfl rfl (Nat.le_of_ble_eq_true rfl) (fun μ22 hq23 => ?_)
        have hR_μ22 : Scr μ μ22 := by rw [hq23]; exact hA_μ13.back (by intro i hi; unfold gamS; rw [fu_ne (by omega), fu_ne (by omega), fu_ne (by omega), fu_ne (by omega)])
        refine aw_iload hO dX12_gameOf_80 rfl rfl ?_
        refine aw_iret hO dX12_gameOf_82 ?_
        exact ⟨_, rfl, by unfold gamM; rw [if_pos c45, if_pos c45, if_neg (by rw [← e_v12]; exact c53)], hR_μ22⟩
    · refine aw_bipush hO dX12_gameOf_56 rfl (by decide) (by decide) ?_
      refine aw_goto (tgt := 62) hO dX12_gameOf_58 rfl ?_
      refine aw_iload hO dX12_gameOf_62 rfl rfl ?_
      refine aw_if_ne (tgt := 71) hO dX12_gameOf_64 rfl rfl ⟨by omega, by omega⟩ (fun c64 => ?_) (fun c64 => ?_)
      · first | exact absurd c64 c45 | exact absurd c45 c64
      · refine aw_iload_n hO dX12_gameOf_67 rfl rfl ?_
        refine aw_goto (tgt := 73) hO dX12_gameOf_68 rfl ?_
        refine aw_isub hO dX12_gameOf_73 rfl ?_
        refine aw_istore (ls' := [some (vR 0), some (vI ((i : Nat) : Int)), some (vI ((j : Nat) : Int)), some (vI ((x : Nat) : Int)), some (vI ((y : Nat) : Int)), some (vI w), some (vI (6 - ((x : Nat) : Int)))]) hO dX12_gameOf_74 rfl (Nat.le_of_ble_eq_true rfl) rfl rfl ?_
        refine aw_aload_n hO dX12_gameOf_76 rfl rfl ?_
        refine aw_callVV (as := []) (st := []) hO dX12_gameOf_77 rfl (lw_t7 208 rfl rfl) kX12_takeBack (T := TX12) rfl (by decide) rfl (ctM_takeBack μ13) (by decide) rfl rfl rfl (Nat.le_of_ble_eq_true rfl) (fun μ25 hq26 => ?_)
        have hR_μ25 : Scr μ μ25 := by rw [hq26]; exact hA_μ13.back (by intro i hi; unfold gamS; rw [fu_ne (by omega), fu_ne (by omega), fu_ne (by omega), fu_ne (by omega)])
        refine aw_iload hO dX12_gameOf_80 rfl rfl ?_
        refine aw_iret hO dX12_gameOf_82 ?_
        exact ⟨_, rfl, by unfold gamM; rw [if_pos c45, if_pos c45, if_pos (by rw [← e_v12]; exact c53)], hR_μ25⟩
theorem dX12_areTwo_0 : decode cX12_areTwo 0 = .ok (.aload_n 0, 1) := by decide +kernel
theorem dX12_areTwo_1 : decode cX12_areTwo 1 = .ok (.iload_n 1, 1) := by decide +kernel
theorem dX12_areTwo_2 : decode cX12_areTwo 2 = .ok (.invokevirtual 313, 3) := by decide +kernel
theorem dX12_areTwo_5 : decode cX12_areTwo 5 = .ok (.ifCond .eq 36, 3) := by decide +kernel
theorem dX12_areTwo_8 : decode cX12_areTwo 8 = .ok (.aload_n 0, 1) := by decide +kernel
theorem dX12_areTwo_9 : decode cX12_areTwo 9 = .ok (.iload_n 2, 1) := by decide +kernel
theorem dX12_areTwo_10 : decode cX12_areTwo 10 = .ok (.invokevirtual 313, 3) := by decide +kernel
theorem dX12_areTwo_13 : decode cX12_areTwo 13 = .ok (.ifCond .eq 28, 3) := by decide +kernel
theorem dX12_areTwo_16 : decode cX12_areTwo 16 = .ok (.iload_n 1, 1) := by decide +kernel
theorem dX12_areTwo_17 : decode cX12_areTwo 17 = .ok (.iload_n 2, 1) := by decide +kernel
theorem dX12_areTwo_18 : decode cX12_areTwo 18 = .ok (.if_icmp .eq 23, 3) := by decide +kernel
theorem dX12_areTwo_21 : decode cX12_areTwo 21 = .ok (.aload_n 0, 1) := by decide +kernel
theorem dX12_areTwo_22 : decode cX12_areTwo 22 = .ok (.iload_n 1, 1) := by decide +kernel
theorem dX12_areTwo_23 : decode cX12_areTwo 23 = .ok (.invokevirtual 280, 3) := by decide +kernel
theorem dX12_areTwo_26 : decode cX12_areTwo 26 = .ok (.ifCond .ne 15, 3) := by decide +kernel
theorem dX12_areTwo_29 : decode cX12_areTwo 29 = .ok (.aload_n 0, 1) := by decide +kernel
theorem dX12_areTwo_30 : decode cX12_areTwo 30 = .ok (.iload_n 2, 1) := by decide +kernel
theorem dX12_areTwo_31 : decode cX12_areTwo 31 = .ok (.invokevirtual 280, 3) := by decide +kernel
theorem dX12_areTwo_34 : decode cX12_areTwo 34 = .ok (.ifCond .ne 7, 3) := by decide +kernel
theorem dX12_areTwo_37 : decode cX12_areTwo 37 = .ok (.iconst 1, 1) := by decide +kernel
theorem dX12_areTwo_38 : decode cX12_areTwo 38 = .ok (.goto 4, 3) := by decide +kernel
theorem dX12_areTwo_41 : decode cX12_areTwo 41 = .ok (.iconst 0, 1) := by decide +kernel
theorem dX12_areTwo_42 : decode cX12_areTwo 42 = .ok (.ireturn, 1) := by decide +kernel
def twoP (μ : Mm) (v u : Int) : Prop := (0 ≤ v ∧ v < μ.1 0 25) ∧ (0 ≤ u ∧ u < μ.1 0 25) ∧ v ≠ u ∧ hasB (μ.1 17 31) v.toNat = false ∧ hasB (μ.1 17 31) u.toNat = false
set_option maxHeartbeats 4000000 in
set_option maxRecDepth 100000 in
theorem ctM_areTwo (μ : Mm) (h : MB μ) {v u : Int} (hv : InR v) (hu : InR u) [Decidable (twoP μ v u)] : CtI PM 2 yX12_areTwo cX12_areTwo 3 (some .boolean) [vR 0, vI v, vI u] μ (if twoP μ v u then 1 else 0) := by
  refine ct_intro [some (vR 0), some (vI v), some (vI u)] RX12 (by decide) rfl XM rfl (Nat.le_of_ble_eq_true rfl) (fun K hO => ?_)
  have hnp := h.np
  refine aw_aload_n hO dX12_areTwo_0 rfl rfl ?_
  refine aw_iload_n hO dX12_areTwo_1 rfl rfl ?_
  refine aw_callVI (as := [vI v]) (st := []) hO dX12_areTwo_2 rfl (lw_t7 21 rfl rfl) kX12_isPerson (T := TX12) rfl (by decide) rfl (ctM_isPerson μ h (v := v) (by assumption)) (by decide) rfl rfl rfl (Nat.le_of_ble_eq_true rfl) ?_
  refine aw_ifz_eq (tgt := 41) hO dX12_areTwo_5 rfl rfl (fun c5 => ?_) (fun c5 => ?_)
  · refine aw_iconst hO dX12_areTwo_41 rfl ?_
    refine aw_zret hO dX12_areTwo_42 (Or.inl rfl) ?_
    exact rI (by rw [if_neg (fun q => c5 q.1)])
  · refine aw_aload_n hO dX12_areTwo_8 rfl rfl ?_
    refine aw_iload_n hO dX12_areTwo_9 rfl rfl ?_
    refine aw_callVI (as := [vI u]) (st := []) hO dX12_areTwo_10 rfl (lw_t7 21 rfl rfl) kX12_isPerson (T := TX12) rfl (by decide) rfl (ctM_isPerson μ h (v := u) (by assumption)) (by decide) rfl rfl rfl (Nat.le_of_ble_eq_true rfl) ?_
    refine aw_ifz_eq (tgt := 41) hO dX12_areTwo_13 rfl rfl (fun c13 => ?_) (fun c13 => ?_)
    · refine aw_iconst hO dX12_areTwo_41 rfl ?_
      refine aw_zret hO dX12_areTwo_42 (Or.inl rfl) ?_
      exact rI (by rw [if_neg (fun q => c13 q.2.1)])
    · refine aw_iload_n hO dX12_areTwo_16 rfl rfl ?_
      refine aw_iload_n hO dX12_areTwo_17 rfl rfl ?_
      refine aw_icmp_eq (tgt := 41) hO dX12_areTwo_18 rfl rfl ⟨by omega, by omega⟩ ⟨by omega, by omega⟩ (fun c18 => ?_) (fun c18 => ?_)
      · refine aw_iconst hO dX12_areTwo_41 rfl ?_
        refine aw_zret hO dX12_areTwo_42 (Or.inl rfl) ?_
        exact rI (by rw [if_neg (fun q => q.2.2.1 c18)])
      · refine aw_aload_n hO dX12_areTwo_21 rfl rfl ?_
        refine aw_iload_n hO dX12_areTwo_22 rfl rfl ?_
        refine aw_stq (st' := [vI ((v.toNat : Nat) : Int), vR 0]) (by rw [Int.toNat_of_nonneg (by omega)]) ?_
        refine aw_callVI (as := [vI ((v.toNat : Nat) : Int)]) (st := []) hO dX12_areTwo_23 rfl (lw_t7 29 rfl rfl) kX12_isAway (T := TX12) rfl (by decide) rfl (ctM_isAway μ v.toNat) (by decide) rfl rfl rfl (Nat.le_of_ble_eq_true rfl) ?_
        refine aw_ifz_ne (tgt := 41) hO dX12_areTwo_26 rfl rfl (fun c26 => ?_) (fun c26 => ?_)
        · refine aw_iconst hO dX12_areTwo_41 rfl ?_
          refine aw_zret hO dX12_areTwo_42 (Or.inl rfl) ?_
          exact rI (by rw [if_neg (fun q => absurd (c26.symm.trans q.2.2.2.1) (by decide))])
        · refine aw_aload_n hO dX12_areTwo_29 rfl rfl ?_
          refine aw_iload_n hO dX12_areTwo_30 rfl rfl ?_
          refine aw_stq (st' := [vI ((u.toNat : Nat) : Int), vR 0]) (by rw [Int.toNat_of_nonneg (by omega)]) ?_
          refine aw_callVI (as := [vI ((u.toNat : Nat) : Int)]) (st := []) hO dX12_areTwo_31 rfl (lw_t7 29 rfl rfl) kX12_isAway (T := TX12) rfl (by decide) rfl (ctM_isAway μ u.toNat) (by decide) rfl rfl rfl (Nat.le_of_ble_eq_true rfl) ?_
          refine aw_ifz_ne (tgt := 41) hO dX12_areTwo_34 rfl rfl (fun c34 => ?_) (fun c34 => ?_)
          · refine aw_iconst hO dX12_areTwo_41 rfl ?_
            refine aw_zret hO dX12_areTwo_42 (Or.inl rfl) ?_
            exact rI (by rw [if_neg (fun q => absurd (c34.symm.trans q.2.2.2.2) (by decide))])
          · refine aw_iconst hO dX12_areTwo_37 rfl ?_
            refine aw_goto (tgt := 42) hO dX12_areTwo_38 rfl ?_
            refine aw_zret hO dX12_areTwo_42 (Or.inr rfl) ?_
            exact rI (by rw [if_pos ⟨c5, c13, c18, Bool.eq_false_iff.mpr c26, Bool.eq_false_iff.mpr c34⟩])
theorem dX12_game_0 : decode cX12_game 0 = .ok (.aload_n 0, 1) := by decide +kernel
theorem dX12_game_1 : decode cX12_game 1 = .ok (.iload_n 1, 1) := by decide +kernel
theorem dX12_game_2 : decode cX12_game 2 = .ok (.iload_n 2, 1) := by decide +kernel
theorem dX12_game_3 : decode cX12_game 3 = .ok (.invokevirtual 403, 3) := by decide +kernel
theorem dX12_game_6 : decode cX12_game 6 = .ok (.ifCond .eq 32, 3) := by decide +kernel
theorem dX12_game_9 : decode cX12_game 9 = .ok (.iload_n 3, 1) := by decide +kernel
theorem dX12_game_10 : decode cX12_game 10 = .ok (.iconst 0, 1) := by decide +kernel
theorem dX12_game_11 : decode cX12_game 11 = .ok (.iconst 3, 1) := by decide +kernel
theorem dX12_game_12 : decode cX12_game 12 = .ok (.invokestatic 205, 3) := by decide +kernel
theorem dX12_game_15 : decode cX12_game 15 = .ok (.ifCond .eq 23, 3) := by decide +kernel
theorem dX12_game_18 : decode cX12_game 18 = .ok (.iload 4, 2) := by decide +kernel
theorem dX12_game_20 : decode cX12_game 20 = .ok (.iconst 0, 1) := by decide +kernel
theorem dX12_game_21 : decode cX12_game 21 = .ok (.iconst 3, 1) := by decide +kernel
theorem dX12_game_22 : decode cX12_game 22 = .ok (.invokestatic 205, 3) := by decide +kernel
theorem dX12_game_25 : decode cX12_game 25 = .ok (.ifCond .eq 13, 3) := by decide +kernel
theorem dX12_game_28 : decode cX12_game 28 = .ok (.iload 5, 2) := by decide +kernel
theorem dX12_game_30 : decode cX12_game 30 = .ok (.iconst 0, 1) := by decide +kernel
theorem dX12_game_31 : decode cX12_game 31 = .ok (.iconst 1, 1) := by decide +kernel
theorem dX12_game_32 : decode cX12_game 32 = .ok (.invokestatic 205, 3) := by decide +kernel
theorem dX12_game_35 : decode cX12_game 35 = .ok (.ifCond .ne 7, 3) := by decide +kernel
theorem dX12_game_38 : decode cX12_game 38 = .ok (.ldc_w 357, 3) := by decide +kernel
theorem dX12_game_41 : decode cX12_game 41 = .ok (.ireturn, 1) := by decide +kernel
theorem dX12_game_42 : decode cX12_game 42 = .ok (.aload_n 0, 1) := by decide +kernel
theorem dX12_game_43 : decode cX12_game 43 = .ok (.iload_n 1, 1) := by decide +kernel
theorem dX12_game_44 : decode cX12_game 44 = .ok (.iload_n 2, 1) := by decide +kernel
theorem dX12_game_45 : decode cX12_game 45 = .ok (.iload_n 3, 1) := by decide +kernel
theorem dX12_game_46 : decode cX12_game 46 = .ok (.iload 4, 2) := by decide +kernel
theorem dX12_game_48 : decode cX12_game 48 = .ok (.iload 5, 2) := by decide +kernel
theorem dX12_game_50 : decode cX12_game 50 = .ok (.invokevirtual 406, 3) := by decide +kernel
theorem dX12_game_53 : decode cX12_game 53 = .ok (.ireturn, 1) := by decide +kernel
set_option maxHeartbeats 4000000 in
set_option maxRecDepth 100000 in
theorem ctM_game (μ : Mm) (h : MG μ) {v u x y w : Int} (hv : InR v) (hu : InR u) (hx : InR x) (hy : InR y) (hw : InR w) [Decidable (twoP μ v u)] : CtE PM 10 yX12_game cX12_game 6 (some .int) [vR 0, vI v, vI u, vI x, vI y, vI w] μ (fun r m => r = (if twoP μ v u ∧ (0 ≤ x ∧ x ≤ 3) ∧ (0 ≤ y ∧ y ≤ 3) ∧ (0 ≤ w ∧ w ≤ 1) then gamM μ v.toNat u.toNat x y w else -1000000) ∧ Scr μ m) := by
  refine ct_intro [some (vR 0), some (vI v), some (vI u), some (vI x), some (vI y), some (vI w)] RX12 (by decide) rfl XM rfl (Nat.le_of_ble_eq_true rfl) (fun K hO => ?_)
  have hnp := h.1.np
  refine aw_aload_n hO dX12_game_0 rfl rfl ?_
  refine aw_iload_n hO dX12_game_1 rfl rfl ?_
  refine aw_iload_n hO dX12_game_2 rfl rfl ?_
  refine aw_callVI (as := [vI v, vI u]) (st := []) hO dX12_game_3 rfl (lw_t8 22 rfl rfl) kX12_areTwo (T := TX12) rfl (by decide) rfl (ctM_areTwo μ h.1 hv hu) (by decide) rfl rfl rfl (Nat.le_of_ble_eq_true rfl) ?_
  refine aw_ifz_eq (tgt := 38) hO dX12_game_6 rfl rfl (fun c6 => ?_) (fun c6 => ?_)
  · refine aw_ldcw (a := (-1000000)) hO dX12_game_38 rfl (lw_t7 183 rfl rfl) ?_
    refine aw_iret hO dX12_game_41 ?_
    exact ⟨_, rfl, by rw [if_neg (fun q => c6 q.1)], Scr.rf⟩
  · refine aw_iload_n hO dX12_game_9 rfl rfl ?_
    refine aw_iconst hO dX12_game_10 rfl ?_
    refine aw_iconst hO dX12_game_11 rfl ?_
    refine aw_callSI (as := [vI x, vI 0, vI 3]) (st := []) hO dX12_game_12 rfl (lw_t6 172 rfl rfl) kX12_in (ctM_in μ ⟨by omega, by omega⟩ (inRlit _) (inRlit _)) (by decide) rfl rfl rfl (Nat.le_of_ble_eq_true rfl) ?_
    refine aw_ifz_eq (tgt := 38) hO dX12_game_15 rfl rfl (fun c15 => ?_) (fun c15 => ?_)
    · refine aw_ldcw (a := (-1000000)) hO dX12_game_38 rfl (lw_t7 183 rfl rfl) ?_
      refine aw_iret hO dX12_game_41 ?_
      exact ⟨_, rfl, by rw [if_neg (fun q => c15 q.2.1)], Scr.rf⟩
    · refine aw_iload hO dX12_game_18 rfl rfl ?_
      refine aw_iconst hO dX12_game_20 rfl ?_
      refine aw_iconst hO dX12_game_21 rfl ?_
      refine aw_callSI (as := [vI y, vI 0, vI 3]) (st := []) hO dX12_game_22 rfl (lw_t6 172 rfl rfl) kX12_in (ctM_in μ ⟨by omega, by omega⟩ (inRlit _) (inRlit _)) (by decide) rfl rfl rfl (Nat.le_of_ble_eq_true rfl) ?_
      refine aw_ifz_eq (tgt := 38) hO dX12_game_25 rfl rfl (fun c25 => ?_) (fun c25 => ?_)
      · refine aw_ldcw (a := (-1000000)) hO dX12_game_38 rfl (lw_t7 183 rfl rfl) ?_
        refine aw_iret hO dX12_game_41 ?_
        exact ⟨_, rfl, by rw [if_neg (fun q => c25 q.2.2.1)], Scr.rf⟩
      · refine aw_iload hO dX12_game_28 rfl rfl ?_
        refine aw_iconst hO dX12_game_30 rfl ?_
        refine aw_iconst hO dX12_game_31 rfl ?_
        refine aw_callSI (as := [vI w, vI 0, vI 1]) (st := []) hO dX12_game_32 rfl (lw_t6 172 rfl rfl) kX12_in (ctM_in μ ⟨by omega, by omega⟩ (inRlit _) (inRlit _)) (by decide) rfl rfl rfl (Nat.le_of_ble_eq_true rfl) ?_
        refine aw_ifz_ne (tgt := 42) hO dX12_game_35 rfl rfl (fun c35 => ?_) (fun c35 => ?_)
        · refine aw_aload_n hO dX12_game_42 rfl rfl ?_
          refine aw_iload_n hO dX12_game_43 rfl rfl ?_
          refine aw_iload_n hO dX12_game_44 rfl rfl ?_
          refine aw_iload_n hO dX12_game_45 rfl rfl ?_
          refine aw_iload hO dX12_game_46 rfl rfl ?_
          refine aw_iload hO dX12_game_48 rfl rfl ?_
          obtain ⟨t1, t2, t3, t4, t5⟩ := id c6
          refine aw_stq (st' := [vI w, vI ((y.toNat : Nat) : Int), vI ((x.toNat : Nat) : Int), vI ((u.toNat : Nat) : Int), vI ((v.toNat : Nat) : Int), vR 0]) (by rw [Int.toNat_of_nonneg (by omega), Int.toNat_of_nonneg (by omega), Int.toNat_of_nonneg (by omega), Int.toNat_of_nonneg (by omega)]) ?_
          refine aw_callVE (as := [vI ((v.toNat : Nat) : Int), vI ((u.toNat : Nat) : Int), vI ((x.toNat : Nat) : Int), vI ((y.toNat : Nat) : Int), vI w]) (st := []) hO dX12_game_50 rfl (lw_t8 26 rfl rfl) kX12_gameOf (T := TX12) rfl (by decide) rfl (ctM_gameOf μ μ h Scr.rf (i := v.toNat) (j := u.toNat) (x := x.toNat) (y := y.toNat) (by omega) (by omega) (by omega) (by omega) (by omega) hw) (by decide) rfl rfl rfl (Nat.le_of_ble_eq_true rfl) (fun v1 μ2 hq3 => ?_)
          obtain ⟨e_v1, s_μ2⟩ := hq3
          refine aw_iret hO dX12_game_53 ?_
          exact ⟨_, rfl, by rw [if_pos ⟨c6, c15, c25, c35⟩, e_v1, Int.toNat_of_nonneg (by omega), Int.toNat_of_nonneg (by omega)], s_μ2⟩
        · refine aw_ldcw (a := (-1000000)) hO dX12_game_38 rfl (lw_t7 183 rfl rfl) ?_
          refine aw_iret hO dX12_game_41 ?_
          exact ⟨_, rfl, by rw [if_neg (fun q => c35 q.2.2.2)], Scr.rf⟩
theorem dX12_isRest_0 : decode cX12_isRest 0 = .ok (.iconst 0, 1) := by decide +kernel
theorem dX12_isRest_1 : decode cX12_isRest 1 = .ok (.istore 5, 2) := by decide +kernel
theorem dX12_isRest_3 : decode cX12_isRest 3 = .ok (.iload 5, 2) := by decide +kernel
theorem dX12_isRest_5 : decode cX12_isRest 5 = .ok (.iconst 3, 1) := by decide +kernel
theorem dX12_isRest_6 : decode cX12_isRest 6 = .ok (.if_icmp .gt 58, 3) := by decide +kernel
theorem dX12_isRest_9 : decode cX12_isRest 9 = .ok (.aload_n 0, 1) := by decide +kernel
theorem dX12_isRest_10 : decode cX12_isRest 10 = .ok (.iload_n 1, 1) := by decide +kernel
theorem dX12_isRest_11 : decode cX12_isRest 11 = .ok (.iload_n 2, 1) := by decide +kernel
theorem dX12_isRest_12 : decode cX12_isRest 12 = .ok (.iload 5, 2) := by decide +kernel
theorem dX12_isRest_14 : decode cX12_isRest 14 = .ok (.iload 4, 2) := by decide +kernel
theorem dX12_isRest_16 : decode cX12_isRest 16 = .ok (.iconst 0, 1) := by decide +kernel
theorem dX12_isRest_17 : decode cX12_isRest 17 = .ok (.invokevirtual 406, 3) := by decide +kernel
theorem dX12_isRest_20 : decode cX12_isRest 20 = .ok (.aload_n 0, 1) := by decide +kernel
theorem dX12_isRest_21 : decode cX12_isRest 21 = .ok (.iload_n 1, 1) := by decide +kernel
theorem dX12_isRest_22 : decode cX12_isRest 22 = .ok (.iload_n 2, 1) := by decide +kernel
theorem dX12_isRest_23 : decode cX12_isRest 23 = .ok (.iload_n 3, 1) := by decide +kernel
theorem dX12_isRest_24 : decode cX12_isRest 24 = .ok (.iload 4, 2) := by decide +kernel
theorem dX12_isRest_26 : decode cX12_isRest 26 = .ok (.iconst 0, 1) := by decide +kernel
theorem dX12_isRest_27 : decode cX12_isRest 27 = .ok (.invokevirtual 406, 3) := by decide +kernel
theorem dX12_isRest_30 : decode cX12_isRest 30 = .ok (.if_icmp .gt 26, 3) := by decide +kernel
theorem dX12_isRest_33 : decode cX12_isRest 33 = .ok (.aload_n 0, 1) := by decide +kernel
theorem dX12_isRest_34 : decode cX12_isRest 34 = .ok (.iload_n 1, 1) := by decide +kernel
theorem dX12_isRest_35 : decode cX12_isRest 35 = .ok (.iload_n 2, 1) := by decide +kernel
theorem dX12_isRest_36 : decode cX12_isRest 36 = .ok (.iload_n 3, 1) := by decide +kernel
theorem dX12_isRest_37 : decode cX12_isRest 37 = .ok (.iload 5, 2) := by decide +kernel
theorem dX12_isRest_39 : decode cX12_isRest 39 = .ok (.iconst 1, 1) := by decide +kernel
theorem dX12_isRest_40 : decode cX12_isRest 40 = .ok (.invokevirtual 406, 3) := by decide +kernel
theorem dX12_isRest_43 : decode cX12_isRest 43 = .ok (.aload_n 0, 1) := by decide +kernel
theorem dX12_isRest_44 : decode cX12_isRest 44 = .ok (.iload_n 1, 1) := by decide +kernel
theorem dX12_isRest_45 : decode cX12_isRest 45 = .ok (.iload_n 2, 1) := by decide +kernel
theorem dX12_isRest_46 : decode cX12_isRest 46 = .ok (.iload_n 3, 1) := by decide +kernel
theorem dX12_isRest_47 : decode cX12_isRest 47 = .ok (.iload 4, 2) := by decide +kernel
theorem dX12_isRest_49 : decode cX12_isRest 49 = .ok (.iconst 1, 1) := by decide +kernel
theorem dX12_isRest_50 : decode cX12_isRest 50 = .ok (.invokevirtual 406, 3) := by decide +kernel
theorem dX12_isRest_53 : decode cX12_isRest 53 = .ok (.if_icmp .le 5, 3) := by decide +kernel
theorem dX12_isRest_56 : decode cX12_isRest 56 = .ok (.iconst 0, 1) := by decide +kernel
theorem dX12_isRest_57 : decode cX12_isRest 57 = .ok (.ireturn, 1) := by decide +kernel
theorem dX12_isRest_58 : decode cX12_isRest 58 = .ok (.iinc 5 1, 3) := by decide +kernel
theorem dX12_isRest_61 : decode cX12_isRest 61 = .ok (.goto (-58), 3) := by decide +kernel
theorem dX12_isRest_64 : decode cX12_isRest 64 = .ok (.iconst 1, 1) := by decide +kernel
theorem dX12_isRest_65 : decode cX12_isRest 65 = .ok (.ireturn, 1) := by decide +kernel
set_option maxHeartbeats 4000000 in
set_option maxRecDepth 100000 in
theorem ctM_isRest (μ n : Mm) (h : MG μ) (hN : Scr μ n) {i j x y : Nat} (hi : i < 6) (hj : j < 6) (hij : i ≠ j) (hx : x ≤ 3) (hy : y ≤ 3) : CtE PM 9 yX12_isRest cX12_isRest 6 (some .boolean) [vR 0, vI ((i : Nat) : Int), vI ((j : Nat) : Int), vI ((x : Nat) : Int), vI ((y : Nat) : Int)] n (fun r m => r = (if rstB μ i j x y = true then 1 else 0) ∧ Scr μ m) := by
  refine ct_intro [some (vR 0), some (vI ((i : Nat) : Int)), some (vI ((j : Nat) : Int)), some (vI ((x : Nat) : Int)), some (vI ((y : Nat) : Int)), none] RX12 (by decide) rfl XM rfl (Nat.le_of_ble_eq_true rfl) (fun K hO => ?_)
  have lp : ∀ (c : Nat) (k : Nat) (m : Mm), (k + c = 4) → (allB (rsK μ i j x y) k = true) → (Scr μ m) → AW K 3 [some (vR 0), some (vI ((i : Nat) : Int)), some (vI ((j : Nat) : Int)), some (vI ((x : Nat) : Int)), some (vI ((y : Nat) : Int)), some (vI ((k : Nat) : Int))] [] m := by
    intro c
    induction c with
    | zero =>
      intro k m hk hr hS
      refine aw_iload hO dX12_isRest_3 rfl rfl ?_
      refine aw_iconst hO dX12_isRest_5 rfl ?_
      refine aw_icmp_gt (tgt := 64) hO dX12_isRest_6 rfl rfl (inRn (by omega)) (inRlit _) (fun c6 => ?_) (fun c6 => ?_)
      · refine aw_iconst hO dX12_isRest_64 rfl ?_
        refine aw_zret hO dX12_isRest_65 (Or.inr rfl) ?_
        exact ⟨_, rfl, by unfold rstB; rw [show k = 4 by omega] at hr; rw [if_pos hr], hS⟩
      · exact absurd c6 (by omega)
    | succ c ih =>
      intro k m hk hr hS
      refine aw_iload hO dX12_isRest_3 rfl rfl ?_
      refine aw_iconst hO dX12_isRest_5 rfl ?_
      refine aw_icmp_gt (tgt := 64) hO dX12_isRest_6 rfl rfl (inRn (by omega)) (inRlit _) (fun c6 => ?_) (fun c6 => ?_)
      · exact absurd c6 (by omega)
      · refine aw_aload_n hO dX12_isRest_9 rfl rfl ?_
        refine aw_iload_n hO dX12_isRest_10 rfl rfl ?_
        refine aw_iload_n hO dX12_isRest_11 rfl rfl ?_
        refine aw_iload hO dX12_isRest_12 rfl rfl ?_
        refine aw_iload hO dX12_isRest_14 rfl rfl ?_
        refine aw_iconst hO dX12_isRest_16 rfl ?_
        refine aw_callVE (as := [vI ((i : Nat) : Int), vI ((j : Nat) : Int), vI ((k : Nat) : Int), vI ((y : Nat) : Int), vI 0]) (st := []) hO dX12_isRest_17 rfl (lw_t8 26 rfl rfl) kX12_gameOf (T := TX12) rfl (by decide) rfl (ctM_gameOf μ m h hS (i := i) (j := j) (x := k) (y := y) hi hj hij (by omega) (by omega) (w := 0) (inRlit _)) (by decide) rfl rfl rfl (Nat.le_of_ble_eq_true rfl) (fun v1 μ2 hq3 => ?_)
        obtain ⟨e_v1, s_μ2⟩ := hq3
        have r_v1 := gamM_rng μ i j (x := ((k : Nat) : Int)) (y := ((y : Nat) : Int)) (by omega) (by omega) 0
        rw [← e_v1] at r_v1
        refine aw_aload_n hO dX12_isRest_20 rfl rfl ?_
        refine aw_iload_n hO dX12_isRest_21 rfl rfl ?_
        refine aw_iload_n hO dX12_isRest_22 rfl rfl ?_
        refine aw_iload_n hO dX12_isRest_23 rfl rfl ?_
        refine aw_iload hO dX12_isRest_24 rfl rfl ?_
        refine aw_iconst hO dX12_isRest_26 rfl ?_
        refine aw_callVE (as := [vI ((i : Nat) : Int), vI ((j : Nat) : Int), vI ((x : Nat) : Int), vI ((y : Nat) : Int), vI 0]) (st := [vI v1]) hO dX12_isRest_27 rfl (lw_t8 26 rfl rfl) kX12_gameOf (T := TX12) rfl (by decide) rfl (ctM_gameOf μ μ2 h s_μ2 (i := i) (j := j) (x := x) (y := y) hi hj hij (by omega) (by omega) (w := 0) (inRlit _)) (by decide) rfl rfl rfl (Nat.le_of_ble_eq_true rfl) (fun v4 μ5 hq6 => ?_)
        obtain ⟨e_v4, s_μ5⟩ := hq6
        have r_v4 := gamM_rng μ i j (x := ((x : Nat) : Int)) (y := ((y : Nat) : Int)) (by omega) (by omega) 0
        rw [← e_v4] at r_v4
        refine aw_icmp_gt (tgt := 56) hO dX12_isRest_30 rfl rfl ⟨by omega, by omega⟩ ⟨by omega, by omega⟩ (fun c30 => ?_) (fun c30 => ?_)
        · refine aw_iconst hO dX12_isRest_56 rfl ?_
          refine aw_zret hO dX12_isRest_57 (Or.inl rfl) ?_
          exact ⟨_, rfl, by unfold rstB; rw [allB_f (k := k) (by unfold rsK; exact fun q => by rw [decide_eq_true_eq, ← e_v1, ← e_v4] at q; omega) 4 (by omega)]; rfl, s_μ5⟩
        · refine aw_aload_n hO dX12_isRest_33 rfl rfl ?_
          refine aw_iload_n hO dX12_isRest_34 rfl rfl ?_
          refine aw_iload_n hO dX12_isRest_35 rfl rfl ?_
          refine aw_iload_n hO dX12_isRest_36 rfl rfl ?_
          refine aw_iload hO dX12_isRest_37 rfl rfl ?_
          refine aw_iconst hO dX12_isRest_39 rfl ?_
          refine aw_callVE (as := [vI ((i : Nat) : Int), vI ((j : Nat) : Int), vI ((x : Nat) : Int), vI ((k : Nat) : Int), vI 1]) (st := []) hO dX12_isRest_40 rfl (lw_t8 26 rfl rfl) kX12_gameOf (T := TX12) rfl (by decide) rfl (ctM_gameOf μ μ5 h s_μ5 (i := i) (j := j) (x := x) (y := k) hi hj hij (by omega) (by omega) (w := 1) (inRlit _)) (by decide) rfl rfl rfl (Nat.le_of_ble_eq_true rfl) (fun v7 μ8 hq9 => ?_)
          obtain ⟨e_v7, s_μ8⟩ := hq9
          have r_v7 := gamM_rng μ i j (x := ((x : Nat) : Int)) (y := ((k : Nat) : Int)) (by omega) (by omega) 1
          rw [← e_v7] at r_v7
          refine aw_aload_n hO dX12_isRest_43 rfl rfl ?_
          refine aw_iload_n hO dX12_isRest_44 rfl rfl ?_
          refine aw_iload_n hO dX12_isRest_45 rfl rfl ?_
          refine aw_iload_n hO dX12_isRest_46 rfl rfl ?_
          refine aw_iload hO dX12_isRest_47 rfl rfl ?_
          refine aw_iconst hO dX12_isRest_49 rfl ?_
          refine aw_callVE (as := [vI ((i : Nat) : Int), vI ((j : Nat) : Int), vI ((x : Nat) : Int), vI ((y : Nat) : Int), vI 1]) (st := [vI v7]) hO dX12_isRest_50 rfl (lw_t8 26 rfl rfl) kX12_gameOf (T := TX12) rfl (by decide) rfl (ctM_gameOf μ μ8 h s_μ8 (i := i) (j := j) (x := x) (y := y) hi hj hij (by omega) (by omega) (w := 1) (inRlit _)) (by decide) rfl rfl rfl (Nat.le_of_ble_eq_true rfl) (fun v10 μ11 hq12 => ?_)
          obtain ⟨e_v10, s_μ11⟩ := hq12
          have r_v10 := gamM_rng μ i j (x := ((x : Nat) : Int)) (y := ((y : Nat) : Int)) (by omega) (by omega) 1
          rw [← e_v10] at r_v10
          refine aw_icmp_le (tgt := 58) hO dX12_isRest_53 rfl rfl ⟨by omega, by omega⟩ ⟨by omega, by omega⟩ (fun c53 => ?_) (fun c53 => ?_)
          · refine aw_iinc (ls' := [some (vR 0), some (vI ((i : Nat) : Int)), some (vI ((j : Nat) : Int)), some (vI ((x : Nat) : Int)), some (vI ((y : Nat) : Int)), some (vI (((k : Nat) : Int) + 1))]) hO dX12_isRest_58 rfl rfl rfl rfl ?_
            refine aw_lsq (ls' := [some (vR 0), some (vI ((i : Nat) : Int)), some (vI ((j : Nat) : Int)), some (vI ((x : Nat) : Int)), some (vI ((y : Nat) : Int)), some (vI (((k + 1) : Nat) : Int))]) rfl ?_
            refine aw_goto (tgt := 3) hO dX12_isRest_61 rfl ?_
            refine aw_lsq (ls' := [some (vR 0), some (vI ((i : Nat) : Int)), some (vI ((j : Nat) : Int)), some (vI ((x : Nat) : Int)), some (vI ((y : Nat) : Int)), some (vI (((k + 1) : Nat) : Int))]) rfl ?_
            exact ih (k + 1) μ11 (by omega) (allB_t hr (by unfold rsK; rw [decide_eq_true_eq, ← e_v1, ← e_v4, ← e_v7, ← e_v10]; exact ⟨c30, c53⟩)) s_μ11
          · refine aw_iconst hO dX12_isRest_56 rfl ?_
            refine aw_zret hO dX12_isRest_57 (Or.inl rfl) ?_
            exact ⟨_, rfl, by unfold rstB; rw [allB_f (k := k) (by unfold rsK; exact fun q => by rw [decide_eq_true_eq, ← e_v7, ← e_v10] at q; omega) 4 (by omega)]; rfl, s_μ11⟩
  refine aw_iconst hO dX12_isRest_0 rfl ?_
  refine aw_istore (ls' := [some (vR 0), some (vI ((i : Nat) : Int)), some (vI ((j : Nat) : Int)), some (vI ((x : Nat) : Int)), some (vI ((y : Nat) : Int)), some (vI 0)]) hO dX12_isRest_1 rfl (Nat.le_of_ble_eq_true rfl) rfl rfl ?_
  refine aw_lsq (ls' := [some (vR 0), some (vI ((i : Nat) : Int)), some (vI ((j : Nat) : Int)), some (vI ((x : Nat) : Int)), some (vI ((y : Nat) : Int)), some (vI ((0 : Nat) : Int))]) rfl ?_
  exact lp 4 0 n rfl rfl hN
