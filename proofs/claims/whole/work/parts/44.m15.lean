
/-! ## questions -/
def metO (f : Nat → Int) : Nat → Int
  | 0 => 0
  | p + 1 => bOr (metO f p) (if 0 < f p then bShl 1 (p : Int) else 0)
theorem metO_s (f : Nat → Int) (p : Nat) : metO f (p + 1) = bOr (metO f p) (if 0 < f p then bShl 1 (p : Int) else 0) := rfl
def allT (_ : Nat) : Bool := true
theorem best1 (val : Nat → Int) : best allT val 1 = 0 := by
  rw [best_succ, if_pos ⟨rfl, Or.inl rfl⟩]
  rfl
theorem bestT_rng (val : Nat → Int) {n : Nat} (hn : 1 ≤ n) : 0 ≤ best allT val n ∧ best allT val n < (n : Int) := by
  rcases best_rng allT val n with h | h
  · exfalso
    obtain ⟨k, rfl⟩ : ∃ k, n = k + 1 := ⟨n - 1, by omega⟩
    rw [best_succ] at h
    split at h
    · omega
    · rename_i hc
      exact hc ⟨rfl, Or.inl h⟩
  · exact h
theorem best_st {val : Nat → Int} {p : Nat} (hp : 1 ≤ p) : best allT val (p + 1) = if val (best allT val p).toNat < val p then (p : Int) else best allT val p := by
  have := bestT_rng val hp
  rw [best_succ]
  by_cases h : val (best allT val p).toNat < val p
  · rw [if_pos h, if_pos ⟨rfl, Or.inr h⟩]
  · rw [if_neg h, if_neg (fun q => q.2.elim (by omega) h)]
def sumF (f : Nat → Int) : Nat → Int
  | 0 => 0
  | p + 1 => sumF f p + f p
theorem sumF_rng {f : Nat → Int} (h : ∀ p, p < 6 → 0 ≤ f p ∧ f p ≤ 99) : ∀ n, n ≤ 6 → 0 ≤ sumF f n ∧ sumF f n ≤ 99 * n
  | 0, _ => by simp [sumF]
  | n + 1, hn => by
    have := sumF_rng h n (by omega)
    have := h n (by omega)
    unfold sumF
    omega
def leadX (μ : Mm) (v : Int) : Nat → Int
  | 0 => -1000000
  | o + 1 => if (o : Int) ≠ v ∧ mayM μ o = true then max (leadX μ v o) (appealM μ o) else leadX μ v o
theorem leadX_rng (μ : Mm) (v : Int) : ∀ n, -1000000 ≤ leadX μ v n ∧ leadX μ v n ≤ 99
  | 0 => by simp [leadX]
  | n + 1 => by
    have h1 := leadX_rng μ v n
    have h2 := clamp_R (a := rawM μ n)
    rw [show clampI 99 (rawM μ n) = appealM μ n from rfl] at h2
    unfold leadX
    split <;> omega
def valM (μ : Mm) (w : Int) (p : Nat) : Int := if w = 0 then appealM μ p else if w = 1 then μ.1 17 (18 + p) else if w = 2 then μ.1 15 (4 * p + 2) else if w = 3 then μ.1 15 (4 * p) else μ.1 15 (4 * p + 1)
theorem valM_Sc {μ m : Mm} (h : Sc s9 μ m) (w : Int) (p : Nat) : valM m w p = valM μ w p := by
  unfold valM
  rw [appealM_Sc h, h.fn (k := 17) rfl, h.fn (k := 15) rfl]
theorem valM_rng {μ : Mm} (h : MB μ) (w : Int) {p : Nat} (hp : p < 6) : -99 ≤ valM μ w p ∧ valM μ w p ≤ 99 := by
  have h2 := clamp_R (a := rawM μ p)
  rw [show clampI 99 (rawM μ p) = appealM μ p from rfl] at h2
  have h3 := h.now.cha (j := 18 + p) (by omega) (by omega)
  have h40 := h.per hp (k := 0) (by omega)
  have h41 := h.per hp (k := 1) (by omega)
  have h42 := h.per hp (k := 2) (by omega)
  rw [Nat.add_zero] at h40
  unfold valM
  repeat' split
  all_goals omega
theorem dX12_metOnes_0 : decode cX12_metOnes 0 = .ok (.iconst 0, 1) := by decide +kernel
theorem dX12_metOnes_1 : decode cX12_metOnes 1 = .ok (.istore_n 1, 1) := by decide +kernel
theorem dX12_metOnes_2 : decode cX12_metOnes 2 = .ok (.iconst 0, 1) := by decide +kernel
theorem dX12_metOnes_3 : decode cX12_metOnes 3 = .ok (.istore_n 2, 1) := by decide +kernel
theorem dX12_metOnes_4 : decode cX12_metOnes 4 = .ok (.iload_n 2, 1) := by decide +kernel
theorem dX12_metOnes_5 : decode cX12_metOnes 5 = .ok (.aload_n 0, 1) := by decide +kernel
theorem dX12_metOnes_6 : decode cX12_metOnes 6 = .ok (.getfield 242, 3) := by decide +kernel
theorem dX12_metOnes_9 : decode cX12_metOnes 9 = .ok (.if_icmp .ge 30, 3) := by decide +kernel
theorem dX12_metOnes_12 : decode cX12_metOnes 12 = .ok (.iload_n 1, 1) := by decide +kernel
theorem dX12_metOnes_13 : decode cX12_metOnes 13 = .ok (.aload_n 0, 1) := by decide +kernel
theorem dX12_metOnes_14 : decode cX12_metOnes 14 = .ok (.getfield 58, 3) := by decide +kernel
theorem dX12_metOnes_17 : decode cX12_metOnes 17 = .ok (.iconst 0, 1) := by decide +kernel
theorem dX12_metOnes_18 : decode cX12_metOnes 18 = .ok (.iload_n 2, 1) := by decide +kernel
theorem dX12_metOnes_19 : decode cX12_metOnes 19 = .ok (.iadd, 1) := by decide +kernel
theorem dX12_metOnes_20 : decode cX12_metOnes 20 = .ok (.iaload, 1) := by decide +kernel
theorem dX12_metOnes_21 : decode cX12_metOnes 21 = .ok (.ifCond .le 9, 3) := by decide +kernel
theorem dX12_metOnes_24 : decode cX12_metOnes 24 = .ok (.iconst 1, 1) := by decide +kernel
theorem dX12_metOnes_25 : decode cX12_metOnes 25 = .ok (.iload_n 2, 1) := by decide +kernel
theorem dX12_metOnes_26 : decode cX12_metOnes 26 = .ok (.ishl, 1) := by decide +kernel
theorem dX12_metOnes_27 : decode cX12_metOnes 27 = .ok (.goto 4, 3) := by decide +kernel
theorem dX12_metOnes_30 : decode cX12_metOnes 30 = .ok (.iconst 0, 1) := by decide +kernel
theorem dX12_metOnes_31 : decode cX12_metOnes 31 = .ok (.ior, 1) := by decide +kernel
theorem dX12_metOnes_32 : decode cX12_metOnes 32 = .ok (.istore_n 1, 1) := by decide +kernel
theorem dX12_metOnes_33 : decode cX12_metOnes 33 = .ok (.iinc 2 1, 3) := by decide +kernel
theorem dX12_metOnes_36 : decode cX12_metOnes 36 = .ok (.goto (-32), 3) := by decide +kernel
theorem dX12_metOnes_39 : decode cX12_metOnes 39 = .ok (.iload_n 1, 1) := by decide +kernel
theorem dX12_metOnes_40 : decode cX12_metOnes 40 = .ok (.ireturn, 1) := by decide +kernel
set_option maxHeartbeats 4000000 in
set_option maxRecDepth 100000 in
theorem ctM_metOnes (μ : Mm) (h : MB μ) : CtI PM 0 yX12_metOnes cX12_metOnes 3 (some .int) [vR 0] μ (metO (μ.1 17) (μ.1 0 25).toNat) := by
  refine ct_intro [some (vR 0), none, none] RX12 (by decide) rfl XM rfl (Nat.le_of_ble_eq_true rfl) (fun K hO => ?_)
  have hnp := h.np
  have lp : ∀ (c : Nat) (p : Nat) (s : Int), ((p : Int) + c = μ.1 0 25) → (s = metO (μ.1 17) p) → AW K 4 [some (vR 0), some (vI s), some (vI ((p : Nat) : Int))] [] μ := by
    intro c
    induction c with
    | zero =>
      intro p s hp hs
      refine aw_iload_n hO dX12_metOnes_4 rfl rfl ?_
      refine aw_aload_n hO dX12_metOnes_5 rfl rfl ?_
      refine gM_persons hO dX12_metOnes_6 rfl ?_
      refine aw_icmp_ge (tgt := 39) hO dX12_metOnes_9 rfl rfl (inRn (by omega)) ⟨by omega, by omega⟩ (fun c9 => ?_) (fun c9 => ?_)
      · refine aw_iload_n hO dX12_metOnes_39 rfl rfl ?_
        refine aw_iret hO dX12_metOnes_40 ?_
        exact rI (by rw [hs, show (μ.1 0 25).toNat = p by omega])
      · exact absurd c9 (by omega)
    | succ c ih =>
      intro p s hp hs
      refine aw_iload_n hO dX12_metOnes_4 rfl rfl ?_
      refine aw_aload_n hO dX12_metOnes_5 rfl rfl ?_
      refine gM_persons hO dX12_metOnes_6 rfl ?_
      refine aw_icmp_ge (tgt := 39) hO dX12_metOnes_9 rfl rfl (inRn (by omega)) ⟨by omega, by omega⟩ (fun c9 => ?_) (fun c9 => ?_)
      · exact absurd c9 (by omega)
      · have hm := h.now.met (p := p) (by omega)
        refine aw_iload_n hO dX12_metOnes_12 rfl rfl ?_
        refine aw_aload_n hO dX12_metOnes_13 rfl rfl ?_
        refine gM_now hO dX12_metOnes_14 rfl ?_
        refine aw_iconst hO dX12_metOnes_17 rfl ?_
        refine aw_iload_n hO dX12_metOnes_18 rfl rfl ?_
        refine aw_iadd hO dX12_metOnes_19 rfl ?_
        refine aw_ialdn (N := 218) (i := p) hO dX12_metOnes_20 rfl (by decide) rfl (by decide) (by omega) (by omega) ?_
        refine aw_if_le (tgt := 30) hO dX12_metOnes_21 rfl rfl ⟨by omega, by omega⟩ (fun c21 => ?_) (fun c21 => ?_)
        · refine aw_iconst hO dX12_metOnes_30 rfl ?_
          refine aw_ior hO dX12_metOnes_31 rfl ?_
          refine aw_istore_n (ls' := [some (vR 0), some (vI (bOr s 0)), some (vI ((p : Nat) : Int))]) hO dX12_metOnes_32 rfl (Nat.le_of_ble_eq_true rfl) rfl rfl ?_
          refine aw_iinc (ls' := [some (vR 0), some (vI (bOr s 0)), some (vI (((p : Nat) : Int) + 1))]) hO dX12_metOnes_33 rfl rfl rfl rfl ?_
          refine aw_lsq (ls' := [some (vR 0), some (vI (bOr s 0)), some (vI (((p + 1) : Nat) : Int))]) rfl ?_
          refine aw_goto (tgt := 4) hO dX12_metOnes_36 rfl ?_
          refine aw_lsq (ls' := [some (vR 0), some (vI (bOr s 0)), some (vI (((p + 1) : Nat) : Int))]) rfl ?_
          exact ih (p + 1) _ (by omega) (by rw [metO_s, ← hs, if_neg (Int.not_lt.mpr c21)])
        · refine aw_iconst hO dX12_metOnes_24 rfl ?_
          refine aw_iload_n hO dX12_metOnes_25 rfl rfl ?_
          refine aw_ishl hO dX12_metOnes_26 rfl ?_
          refine aw_goto (tgt := 31) hO dX12_metOnes_27 rfl ?_
          refine aw_ior hO dX12_metOnes_31 rfl ?_
          refine aw_istore_n (ls' := [some (vR 0), some (vI (bOr s (bShl 1 ((p : Nat) : Int)))), some (vI ((p : Nat) : Int))]) hO dX12_metOnes_32 rfl (Nat.le_of_ble_eq_true rfl) rfl rfl ?_
          refine aw_iinc (ls' := [some (vR 0), some (vI (bOr s (bShl 1 ((p : Nat) : Int)))), some (vI (((p : Nat) : Int) + 1))]) hO dX12_metOnes_33 rfl rfl rfl rfl ?_
          refine aw_lsq (ls' := [some (vR 0), some (vI (bOr s (bShl 1 ((p : Nat) : Int)))), some (vI (((p + 1) : Nat) : Int))]) rfl ?_
          refine aw_goto (tgt := 4) hO dX12_metOnes_36 rfl ?_
          refine aw_lsq (ls' := [some (vR 0), some (vI (bOr s (bShl 1 ((p : Nat) : Int)))), some (vI (((p + 1) : Nat) : Int))]) rfl ?_
          exact ih (p + 1) _ (by omega) (by rw [metO_s, ← hs, if_pos c21])
  refine aw_iconst hO dX12_metOnes_0 rfl ?_
  refine aw_istore_n (ls' := [some (vR 0), some (vI 0), none]) hO dX12_metOnes_1 rfl (Nat.le_of_ble_eq_true rfl) rfl rfl ?_
  refine aw_iconst hO dX12_metOnes_2 rfl ?_
  refine aw_istore_n (ls' := [some (vR 0), some (vI 0), some (vI 0)]) hO dX12_metOnes_3 rfl (Nat.le_of_ble_eq_true rfl) rfl rfl ?_
  refine aw_lsq (ls' := [some (vR 0), some (vI 0), some (vI ((0 : Nat) : Int))]) rfl ?_
  exact lp (μ.1 0 25).toNat 0 0 (by omega) rfl
theorem dX12_gravest_0 : decode cX12_gravest 0 = .ok (.aload_n 0, 1) := by decide +kernel
theorem dX12_gravest_1 : decode cX12_gravest 1 = .ok (.getfield 245, 3) := by decide +kernel
theorem dX12_gravest_4 : decode cX12_gravest 4 = .ok (.ifCond .ne 7, 3) := by decide +kernel
theorem dX12_gravest_7 : decode cX12_gravest 7 = .ok (.iconst (-1), 1) := by decide +kernel
theorem dX12_gravest_8 : decode cX12_gravest 8 = .ok (.goto 4, 3) := by decide +kernel
theorem dX12_gravest_11 : decode cX12_gravest 11 = .ok (.iconst 0, 1) := by decide +kernel
theorem dX12_gravest_12 : decode cX12_gravest 12 = .ok (.istore_n 1, 1) := by decide +kernel
theorem dX12_gravest_13 : decode cX12_gravest 13 = .ok (.iconst 1, 1) := by decide +kernel
theorem dX12_gravest_14 : decode cX12_gravest 14 = .ok (.istore_n 2, 1) := by decide +kernel
theorem dX12_gravest_15 : decode cX12_gravest 15 = .ok (.iload_n 2, 1) := by decide +kernel
theorem dX12_gravest_16 : decode cX12_gravest 16 = .ok (.aload_n 0, 1) := by decide +kernel
theorem dX12_gravest_17 : decode cX12_gravest 17 = .ok (.getfield 245, 3) := by decide +kernel
theorem dX12_gravest_20 : decode cX12_gravest 20 = .ok (.if_icmp .ge 38, 3) := by decide +kernel
theorem dX12_gravest_23 : decode cX12_gravest 23 = .ok (.aload_n 0, 1) := by decide +kernel
theorem dX12_gravest_24 : decode cX12_gravest 24 = .ok (.getfield 55, 3) := by decide +kernel
theorem dX12_gravest_27 : decode cX12_gravest 27 = .ok (.iconst 3, 1) := by decide +kernel
theorem dX12_gravest_28 : decode cX12_gravest 28 = .ok (.iload_n 2, 1) := by decide +kernel
theorem dX12_gravest_29 : decode cX12_gravest 29 = .ok (.imul, 1) := by decide +kernel
theorem dX12_gravest_30 : decode cX12_gravest 30 = .ok (.iconst 2, 1) := by decide +kernel
theorem dX12_gravest_31 : decode cX12_gravest 31 = .ok (.iadd, 1) := by decide +kernel
theorem dX12_gravest_32 : decode cX12_gravest 32 = .ok (.iaload, 1) := by decide +kernel
theorem dX12_gravest_33 : decode cX12_gravest 33 = .ok (.aload_n 0, 1) := by decide +kernel
theorem dX12_gravest_34 : decode cX12_gravest 34 = .ok (.getfield 55, 3) := by decide +kernel
theorem dX12_gravest_37 : decode cX12_gravest 37 = .ok (.iconst 3, 1) := by decide +kernel
theorem dX12_gravest_38 : decode cX12_gravest 38 = .ok (.iload_n 1, 1) := by decide +kernel
theorem dX12_gravest_39 : decode cX12_gravest 39 = .ok (.imul, 1) := by decide +kernel
theorem dX12_gravest_40 : decode cX12_gravest 40 = .ok (.iconst 2, 1) := by decide +kernel
theorem dX12_gravest_41 : decode cX12_gravest 41 = .ok (.iadd, 1) := by decide +kernel
theorem dX12_gravest_42 : decode cX12_gravest 42 = .ok (.iaload, 1) := by decide +kernel
theorem dX12_gravest_43 : decode cX12_gravest 43 = .ok (.if_icmp .le 7, 3) := by decide +kernel
theorem dX12_gravest_46 : decode cX12_gravest 46 = .ok (.iload_n 2, 1) := by decide +kernel
theorem dX12_gravest_47 : decode cX12_gravest 47 = .ok (.goto 4, 3) := by decide +kernel
theorem dX12_gravest_50 : decode cX12_gravest 50 = .ok (.iload_n 1, 1) := by decide +kernel
theorem dX12_gravest_51 : decode cX12_gravest 51 = .ok (.istore_n 1, 1) := by decide +kernel
theorem dX12_gravest_52 : decode cX12_gravest 52 = .ok (.iinc 2 1, 3) := by decide +kernel
theorem dX12_gravest_55 : decode cX12_gravest 55 = .ok (.goto (-40), 3) := by decide +kernel
theorem dX12_gravest_58 : decode cX12_gravest 58 = .ok (.iload_n 1, 1) := by decide +kernel
theorem dX12_gravest_59 : decode cX12_gravest 59 = .ok (.ireturn, 1) := by decide +kernel
set_option maxHeartbeats 4000000 in
set_option maxRecDepth 100000 in
theorem ctM_gravest (μ : Mm) (h : MB μ) : CtI PM 0 yX12_gravest cX12_gravest 3 (some .int) [vR 0] μ (if μ.1 0 26 = 0 then -1 else best allT (fun t => μ.1 16 (3 * t + 2)) (μ.1 0 26).toNat) := by
  refine ct_intro [some (vR 0), none, none] RX12 (by decide) rfl XM rfl (Nat.le_of_ble_eq_true rfl) (fun K hO => ?_)
  have hnt := h.nt
  have body : μ.1 0 26 ≠ 0 → AW K 15 [some (vR 0), some (vI 0), some (vI ((1 : Nat) : Int))] [] μ := by
    intro h0
    have lp : ∀ (c : Nat) (t : Nat) (b : Int), ((t : Int) + c = μ.1 0 26) → (1 ≤ t) → (b = best allT (fun t => μ.1 16 (3 * t + 2)) t) → AW K 15 [some (vR 0), some (vI b), some (vI ((t : Nat) : Int))] [] μ := by
      intro c
      induction c with
      | zero =>
        intro t b ht ht1 hb
        refine aw_iload_n hO dX12_gravest_15 rfl rfl ?_
        refine aw_aload_n hO dX12_gravest_16 rfl rfl ?_
        refine gM_troubles hO dX12_gravest_17 rfl ?_
        refine aw_icmp_ge (tgt := 58) hO dX12_gravest_20 rfl rfl (inRn (by omega)) ⟨by omega, by omega⟩ (fun c20 => ?_) (fun c20 => ?_)
        · refine aw_iload_n hO dX12_gravest_58 rfl rfl ?_
          refine aw_iret hO dX12_gravest_59 ?_
          exact rI (by rw [if_neg h0, hb, show (μ.1 0 26).toNat = t by omega])
        · exact absurd c20 (by omega)
      | succ c ih =>
        intro t b ht ht1 hb
        refine aw_iload_n hO dX12_gravest_15 rfl rfl ?_
        refine aw_aload_n hO dX12_gravest_16 rfl rfl ?_
        refine gM_troubles hO dX12_gravest_17 rfl ?_
        refine aw_icmp_ge (tgt := 58) hO dX12_gravest_20 rfl rfl (inRn (by omega)) ⟨by omega, by omega⟩ (fun c20 => ?_) (fun c20 => ?_)
        · exact absurd c20 (by omega)
        · have hbr := bestT_rng (fun t => μ.1 16 (3 * t + 2)) ht1
          rw [← hb] at hbr
          have g1 := (h.tr (t := t) (by omega)).2.2
          have g2 := (h.tr (t := b.toNat) (by omega)).2.2
          refine aw_aload_n hO dX12_gravest_23 rfl rfl ?_
          refine gM_trouble hO dX12_gravest_24 rfl ?_
          refine aw_iconst hO dX12_gravest_27 rfl ?_
          refine aw_iload_n hO dX12_gravest_28 rfl rfl ?_
          refine aw_imul hO dX12_gravest_29 rfl ?_
          refine aw_iconst hO dX12_gravest_30 rfl ?_
          refine aw_iadd hO dX12_gravest_31 rfl ?_
          refine aw_ialdn (N := 15) (i := ((3 * t) + 2)) hO dX12_gravest_32 rfl (by decide) rfl (by decide) (by omega) (by omega) ?_
          refine aw_aload_n hO dX12_gravest_33 rfl rfl ?_
          refine gM_trouble hO dX12_gravest_34 rfl ?_
          refine aw_iconst hO dX12_gravest_37 rfl ?_
          refine aw_iload_n hO dX12_gravest_38 rfl rfl ?_
          refine aw_imul hO dX12_gravest_39 rfl ?_
          refine aw_iconst hO dX12_gravest_40 rfl ?_
          refine aw_iadd hO dX12_gravest_41 rfl ?_
          refine aw_ialdn (N := 15) (i := (3 * b.toNat + 2)) hO dX12_gravest_42 rfl (by decide) rfl (by decide) (by omega) (by omega) ?_
          refine aw_icmp_le (tgt := 50) hO dX12_gravest_43 rfl rfl ⟨by omega, by omega⟩ ⟨by omega, by omega⟩ (fun c43 => ?_) (fun c43 => ?_)
          · refine aw_iload_n hO dX12_gravest_50 rfl rfl ?_
            refine aw_istore_n (ls' := [some (vR 0), some (vI b), some (vI ((t : Nat) : Int))]) hO dX12_gravest_51 rfl (Nat.le_of_ble_eq_true rfl) rfl rfl ?_
            refine aw_iinc (ls' := [some (vR 0), some (vI b), some (vI (((t : Nat) : Int) + 1))]) hO dX12_gravest_52 rfl rfl rfl rfl ?_
            refine aw_lsq (ls' := [some (vR 0), some (vI b), some (vI (((t + 1) : Nat) : Int))]) rfl ?_
            refine aw_goto (tgt := 15) hO dX12_gravest_55 rfl ?_
            refine aw_lsq (ls' := [some (vR 0), some (vI b), some (vI (((t + 1) : Nat) : Int))]) rfl ?_
            exact ih (t + 1) _ (by omega) (by omega) (by rw [best_st ht1, ← hb, if_neg (Int.not_lt.mpr c43)])
          · refine aw_iload_n hO dX12_gravest_46 rfl rfl ?_
            refine aw_goto (tgt := 51) hO dX12_gravest_47 rfl ?_
            refine aw_istore_n (ls' := [some (vR 0), some (vI ((t : Nat) : Int)), some (vI ((t : Nat) : Int))]) hO dX12_gravest_51 rfl (Nat.le_of_ble_eq_true rfl) rfl rfl ?_
            refine aw_iinc (ls' := [some (vR 0), some (vI ((t : Nat) : Int)), some (vI (((t : Nat) : Int) + 1))]) hO dX12_gravest_52 rfl rfl rfl rfl ?_
            refine aw_lsq (ls' := [some (vR 0), some (vI ((t : Nat) : Int)), some (vI (((t + 1) : Nat) : Int))]) rfl ?_
            refine aw_goto (tgt := 15) hO dX12_gravest_55 rfl ?_
            refine aw_lsq (ls' := [some (vR 0), some (vI ((t : Nat) : Int)), some (vI (((t + 1) : Nat) : Int))]) rfl ?_
            exact ih (t + 1) _ (by omega) (by omega) (by rw [best_st ht1, ← hb, if_pos c43])
    exact lp ((μ.1 0 26).toNat - 1) 1 0 (by omega) (by omega) (best1 _).symm
  refine aw_aload_n hO dX12_gravest_0 rfl rfl ?_
  refine gM_troubles hO dX12_gravest_1 rfl ?_
  refine aw_if_ne (tgt := 11) hO dX12_gravest_4 rfl rfl ⟨by omega, by omega⟩ (fun c4 => ?_) (fun c4 => ?_)
  · refine aw_iconst hO dX12_gravest_11 rfl ?_
    refine aw_istore_n (ls' := [some (vR 0), some (vI 0), none]) hO dX12_gravest_12 rfl (Nat.le_of_ble_eq_true rfl) rfl rfl ?_
    refine aw_iconst hO dX12_gravest_13 rfl ?_
    refine aw_istore_n (ls' := [some (vR 0), some (vI 0), some (vI 1)]) hO dX12_gravest_14 rfl (Nat.le_of_ble_eq_true rfl) rfl rfl ?_
    refine aw_lsq (ls' := [some (vR 0), some (vI 0), some (vI ((1 : Nat) : Int))]) rfl ?_
    exact body c4
  · refine aw_iconst hO dX12_gravest_7 rfl ?_
    refine aw_goto (tgt := 12) hO dX12_gravest_8 rfl ?_
    refine aw_istore_n (ls' := [some (vR 0), some (vI (-1)), none]) hO dX12_gravest_12 rfl (Nat.le_of_ble_eq_true rfl) rfl rfl ?_
    refine aw_iconst hO dX12_gravest_13 rfl ?_
    refine aw_istore_n (ls' := [some (vR 0), some (vI (-1)), some (vI 1)]) hO dX12_gravest_14 rfl (Nat.le_of_ble_eq_true rfl) rfl rfl ?_
    refine aw_iload_n hO dX12_gravest_15 rfl rfl ?_
    refine aw_aload_n hO dX12_gravest_16 rfl rfl ?_
    refine gM_troubles hO dX12_gravest_17 rfl ?_
    refine aw_icmp_ge (tgt := 58) hO dX12_gravest_20 rfl rfl (inRlit _) ⟨by omega, by omega⟩ (fun c20 => ?_) (fun c20 => ?_)
    · refine aw_iload_n hO dX12_gravest_58 rfl rfl ?_
      refine aw_iret hO dX12_gravest_59 ?_
      exact rI (by rw [if_pos c4])
    · exact absurd c20 (by omega)
theorem dX12_appeal_0 : decode cX12_appeal 0 = .ok (.aload_n 0, 1) := by decide +kernel
theorem dX12_appeal_1 : decode cX12_appeal 1 = .ok (.iload_n 1, 1) := by decide +kernel
theorem dX12_appeal_2 : decode cX12_appeal 2 = .ok (.invokevirtual 313, 3) := by decide +kernel
theorem dX12_appeal_5 : decode cX12_appeal 5 = .ok (.ifCond .eq 11, 3) := by decide +kernel
theorem dX12_appeal_8 : decode cX12_appeal 8 = .ok (.aload_n 0, 1) := by decide +kernel
theorem dX12_appeal_9 : decode cX12_appeal 9 = .ok (.iload_n 1, 1) := by decide +kernel
theorem dX12_appeal_10 : decode cX12_appeal 10 = .ok (.invokevirtual 286, 3) := by decide +kernel
theorem dX12_appeal_13 : decode cX12_appeal 13 = .ok (.goto 6, 3) := by decide +kernel
theorem dX12_appeal_16 : decode cX12_appeal 16 = .ok (.ldc_w 357, 3) := by decide +kernel
theorem dX12_appeal_19 : decode cX12_appeal 19 = .ok (.ireturn, 1) := by decide +kernel
set_option maxHeartbeats 4000000 in
set_option maxRecDepth 100000 in
theorem ctM_appeal (μ : Mm) (h : MG μ) {v : Int} (hv : InR v) : CtE PM 6 yX12_appeal cX12_appeal 2 (some .int) [vR 0, vI v] μ (fun r m => r = (if 0 ≤ v ∧ v < μ.1 0 25 then appealM μ v.toNat else -1000000) ∧ Sc s9 μ m) := by
  refine ct_intro [some (vR 0), some (vI v)] RX12 (by decide) rfl XM rfl (Nat.le_of_ble_eq_true rfl) (fun K hO => ?_)
  have hnp := h.1.np
  refine aw_aload_n hO dX12_appeal_0 rfl rfl ?_
  refine aw_iload_n hO dX12_appeal_1 rfl rfl ?_
  refine aw_callVI (as := [vI v]) (st := []) hO dX12_appeal_2 rfl (lw_t7 21 rfl rfl) kX12_isPerson (T := TX12) rfl (by decide) rfl (ctM_isPerson μ h.1 (v := v) hv) (by decide) rfl rfl rfl (Nat.le_of_ble_eq_true rfl) ?_
  refine aw_ifz_eq (tgt := 16) hO dX12_appeal_5 rfl rfl (fun c5 => ?_) (fun c5 => ?_)
  · refine aw_ldcw (a := (-1000000)) hO dX12_appeal_16 rfl (lw_t7 183 rfl rfl) ?_
    refine aw_iret hO dX12_appeal_19 ?_
    exact ⟨_, rfl, by rw [if_neg c5], Sc.rf⟩
  · refine aw_aload_n hO dX12_appeal_8 rfl rfl ?_
    refine aw_iload_n hO dX12_appeal_9 rfl rfl ?_
    refine aw_stq (st' := [vI ((v.toNat : Nat) : Int), vR 0]) (by rw [Int.toNat_of_nonneg (by omega)]) ?_
    refine aw_callVE (as := [vI ((v.toNat : Nat) : Int)]) (st := []) hO dX12_appeal_10 rfl (lw_t7 112 rfl rfl) kX12_appealOf (T := TX12) rfl (by decide) rfl (ctM_appealOf μ h (p := v.toNat) (by omega)) (by decide) rfl rfl rfl (Nat.le_of_ble_eq_true rfl) (fun v1 μ2 hq3 => ?_)
    obtain ⟨e_v1, s_μ2⟩ := hq3
    refine aw_goto (tgt := 19) hO dX12_appeal_13 rfl ?_
    refine aw_iret hO dX12_appeal_19 ?_
    exact ⟨_, rfl, by rw [if_pos c5]; exact e_v1, s_μ2⟩
theorem dX12_lead_0 : decode cX12_lead 0 = .ok (.aload_n 0, 1) := by decide +kernel
theorem dX12_lead_1 : decode cX12_lead 1 = .ok (.iload_n 1, 1) := by decide +kernel
theorem dX12_lead_2 : decode cX12_lead 2 = .ok (.invokevirtual 313, 3) := by decide +kernel
theorem dX12_lead_5 : decode cX12_lead 5 = .ok (.ifCond .eq 11, 3) := by decide +kernel
theorem dX12_lead_8 : decode cX12_lead 8 = .ok (.aload_n 0, 1) := by decide +kernel
theorem dX12_lead_9 : decode cX12_lead 9 = .ok (.iload_n 1, 1) := by decide +kernel
theorem dX12_lead_10 : decode cX12_lead 10 = .ok (.invokevirtual 283, 3) := by decide +kernel
theorem dX12_lead_13 : decode cX12_lead 13 = .ok (.ifCond .ne 7, 3) := by decide +kernel
theorem dX12_lead_16 : decode cX12_lead 16 = .ok (.ldc_w 357, 3) := by decide +kernel
theorem dX12_lead_19 : decode cX12_lead 19 = .ok (.ireturn, 1) := by decide +kernel
theorem dX12_lead_20 : decode cX12_lead 20 = .ok (.ldc_w 357, 3) := by decide +kernel
theorem dX12_lead_23 : decode cX12_lead 23 = .ok (.istore_n 2, 1) := by decide +kernel
theorem dX12_lead_24 : decode cX12_lead 24 = .ok (.iconst 0, 1) := by decide +kernel
theorem dX12_lead_25 : decode cX12_lead 25 = .ok (.istore_n 3, 1) := by decide +kernel
theorem dX12_lead_26 : decode cX12_lead 26 = .ok (.iload_n 3, 1) := by decide +kernel
theorem dX12_lead_27 : decode cX12_lead 27 = .ok (.aload_n 0, 1) := by decide +kernel
theorem dX12_lead_28 : decode cX12_lead 28 = .ok (.getfield 242, 3) := by decide +kernel
theorem dX12_lead_31 : decode cX12_lead 31 = .ok (.if_icmp .ge 36, 3) := by decide +kernel
theorem dX12_lead_34 : decode cX12_lead 34 = .ok (.iload_n 3, 1) := by decide +kernel
theorem dX12_lead_35 : decode cX12_lead 35 = .ok (.iload_n 1, 1) := by decide +kernel
theorem dX12_lead_36 : decode cX12_lead 36 = .ok (.if_icmp .eq 23, 3) := by decide +kernel
theorem dX12_lead_39 : decode cX12_lead 39 = .ok (.aload_n 0, 1) := by decide +kernel
theorem dX12_lead_40 : decode cX12_lead 40 = .ok (.iload_n 3, 1) := by decide +kernel
theorem dX12_lead_41 : decode cX12_lead 41 = .ok (.invokevirtual 283, 3) := by decide +kernel
theorem dX12_lead_44 : decode cX12_lead 44 = .ok (.ifCond .eq 15, 3) := by decide +kernel
theorem dX12_lead_47 : decode cX12_lead 47 = .ok (.iload_n 2, 1) := by decide +kernel
theorem dX12_lead_48 : decode cX12_lead 48 = .ok (.aload_n 0, 1) := by decide +kernel
theorem dX12_lead_49 : decode cX12_lead 49 = .ok (.iload_n 3, 1) := by decide +kernel
theorem dX12_lead_50 : decode cX12_lead 50 = .ok (.invokevirtual 286, 3) := by decide +kernel
theorem dX12_lead_53 : decode cX12_lead 53 = .ok (.invokestatic 269, 3) := by decide +kernel
theorem dX12_lead_56 : decode cX12_lead 56 = .ok (.goto 4, 3) := by decide +kernel
theorem dX12_lead_59 : decode cX12_lead 59 = .ok (.iload_n 2, 1) := by decide +kernel
theorem dX12_lead_60 : decode cX12_lead 60 = .ok (.istore_n 2, 1) := by decide +kernel
theorem dX12_lead_61 : decode cX12_lead 61 = .ok (.iinc 3 1, 3) := by decide +kernel
theorem dX12_lead_64 : decode cX12_lead 64 = .ok (.goto (-38), 3) := by decide +kernel
theorem dX12_lead_67 : decode cX12_lead 67 = .ok (.iload_n 2, 1) := by decide +kernel
theorem dX12_lead_68 : decode cX12_lead 68 = .ok (.ldc_w 357, 3) := by decide +kernel
theorem dX12_lead_71 : decode cX12_lead 71 = .ok (.if_icmp .ne 8, 3) := by decide +kernel
theorem dX12_lead_74 : decode cX12_lead 74 = .ok (.bipush 99, 2) := by decide +kernel
theorem dX12_lead_76 : decode cX12_lead 76 = .ok (.goto 10, 3) := by decide +kernel
theorem dX12_lead_79 : decode cX12_lead 79 = .ok (.aload_n 0, 1) := by decide +kernel
theorem dX12_lead_80 : decode cX12_lead 80 = .ok (.iload_n 1, 1) := by decide +kernel
theorem dX12_lead_81 : decode cX12_lead 81 = .ok (.invokevirtual 286, 3) := by decide +kernel
theorem dX12_lead_84 : decode cX12_lead 84 = .ok (.iload_n 2, 1) := by decide +kernel
theorem dX12_lead_85 : decode cX12_lead 85 = .ok (.isub, 1) := by decide +kernel
theorem dX12_lead_86 : decode cX12_lead 86 = .ok (.ireturn, 1) := by decide +kernel
set_option maxHeartbeats 4000000 in
set_option maxRecDepth 100000 in
theorem ctM_lead (μ : Mm) (h : MG μ) {v : Int} (hv : InR v) : CtE PM 6 yX12_lead cX12_lead 4 (some .int) [vR 0, vI v] μ (fun r m => r = (if (0 ≤ v ∧ v < μ.1 0 25) ∧ mayM μ v.toNat = true then (if leadX μ v (μ.1 0 25).toNat = -1000000 then 99 else appealM μ v.toNat - leadX μ v (μ.1 0 25).toNat) else -1000000) ∧ Sc s9 μ m) := by
  refine ct_intro [some (vR 0), some (vI v), none, none] RX12 (by decide) rfl XM rfl (Nat.le_of_ble_eq_true rfl) (fun K hO => ?_)
  have hnp := h.1.np
  have body : (0 ≤ v ∧ v < μ.1 0 25) ∧ mayM μ v.toNat = true → AW K 26 [some (vR 0), some (vI v), some (vI (-1000000)), some (vI ((0 : Nat) : Int))] [] μ := by
    intro hw
    have lp : ∀ (c : Nat) (o : Nat) (x : Int) (m : Mm), ((o : Int) + c = μ.1 0 25) → (x = leadX μ v o) → (Sc s9 μ m) → AW K 26 [some (vR 0), some (vI v), some (vI x), some (vI ((o : Nat) : Int))] [] m := by
      intro c
      induction c with
      | zero =>
        intro o x m ho hx hS
        have hxr := leadX_rng μ v o
        refine aw_iload_n hO dX12_lead_26 rfl rfl ?_
        refine aw_aload_n hO dX12_lead_27 rfl rfl ?_
        refine gM_persons hO dX12_lead_28 rfl ?_
        refine aw_cg (hS.1 0 25 rfl) ?_
        refine aw_icmp_ge (tgt := 67) hO dX12_lead_31 rfl rfl (inRn (by omega)) ⟨by omega, by omega⟩ (fun c31 => ?_) (fun c31 => ?_)
        · refine aw_iload_n hO dX12_lead_67 rfl rfl ?_
          refine aw_ldcw (a := (-1000000)) hO dX12_lead_68 rfl (lw_t7 183 rfl rfl) ?_
          refine aw_icmp_ne (tgt := 79) hO dX12_lead_71 rfl rfl ⟨by omega, by omega⟩ (inRlit _) (fun c71 => ?_) (fun c71 => ?_)
          · refine aw_aload_n hO dX12_lead_79 rfl rfl ?_
            refine aw_iload_n hO dX12_lead_80 rfl rfl ?_
            refine aw_stq (st' := [vI ((v.toNat : Nat) : Int), vR 0]) (by rw [Int.toNat_of_nonneg (by omega)]) ?_
            refine aw_callVE (as := [vI ((v.toNat : Nat) : Int)]) (st := []) hO dX12_lead_81 rfl (lw_t7 112 rfl rfl) kX12_appealOf (T := TX12) rfl (by decide) rfl (ctM_appealOf m (h.Sc hS) (p := v.toNat) (by omega)) (by decide) rfl rfl rfl (Nat.le_of_ble_eq_true rfl) (fun v1 μ2 hq3 => ?_)
            obtain ⟨e_v1, s_μ2⟩ := hq3
            refine aw_iload_n hO dX12_lead_84 rfl rfl ?_
            refine aw_isub hO dX12_lead_85 rfl ?_
            refine aw_iret hO dX12_lead_86 ?_
            exact ⟨_, rfl, by rw [if_pos hw, show (μ.1 0 25).toNat = o by omega, ← hx, if_neg c71, e_v1, appealM_Sc hS], hS.tr s_μ2⟩
          · refine aw_bipush hO dX12_lead_74 rfl (by decide) (by decide) ?_
            refine aw_goto (tgt := 86) hO dX12_lead_76 rfl ?_
            refine aw_iret hO dX12_lead_86 ?_
            exact ⟨_, rfl, by rw [if_pos hw, show (μ.1 0 25).toNat = o by omega, ← hx, if_pos c71], hS⟩
        · exact absurd c31 (by omega)
      | succ c ih =>
        intro o x m ho hx hS
        have hxr := leadX_rng μ v o
        refine aw_iload_n hO dX12_lead_26 rfl rfl ?_
        refine aw_aload_n hO dX12_lead_27 rfl rfl ?_
        refine gM_persons hO dX12_lead_28 rfl ?_
        refine aw_cg (hS.1 0 25 rfl) ?_
        refine aw_icmp_ge (tgt := 67) hO dX12_lead_31 rfl rfl (inRn (by omega)) ⟨by omega, by omega⟩ (fun c31 => ?_) (fun c31 => ?_)
        · exact absurd c31 (by omega)
        · refine aw_iload_n hO dX12_lead_34 rfl rfl ?_
          refine aw_iload_n hO dX12_lead_35 rfl rfl ?_
          refine aw_icmp_eq (tgt := 59) hO dX12_lead_36 rfl rfl (inRn (by omega)) ⟨by omega, by omega⟩ (fun c36 => ?_) (fun c36 => ?_)
          · refine aw_iload_n hO dX12_lead_59 rfl rfl ?_
            refine aw_istore_n (ls' := [some (vR 0), some (vI v), some (vI x), some (vI ((o : Nat) : Int))]) hO dX12_lead_60 rfl (Nat.le_of_ble_eq_true rfl) rfl rfl ?_
            refine aw_iinc (ls' := [some (vR 0), some (vI v), some (vI x), some (vI (((o : Nat) : Int) + 1))]) hO dX12_lead_61 rfl rfl rfl rfl ?_
            refine aw_lsq (ls' := [some (vR 0), some (vI v), some (vI x), some (vI (((o + 1) : Nat) : Int))]) rfl ?_
            refine aw_goto (tgt := 26) hO dX12_lead_64 rfl ?_
            refine aw_lsq (ls' := [some (vR 0), some (vI v), some (vI x), some (vI (((o + 1) : Nat) : Int))]) rfl ?_
            exact ih (o + 1) _ m (by omega) (by rw [leadX, if_neg (fun q => q.1 c36)]; exact hx) hS
          · refine aw_aload_n hO dX12_lead_39 rfl rfl ?_
            refine aw_iload_n hO dX12_lead_40 rfl rfl ?_
            refine aw_callVI (as := [vI ((o : Nat) : Int)]) (st := []) hO dX12_lead_41 rfl (lw_t7 108 rfl rfl) kX12_mayBe (T := TX12) rfl (by decide) rfl (ctM_mayBe m (h.Sc hS).1 (p := o) (by omega)) (by decide) rfl rfl rfl (Nat.le_of_ble_eq_true rfl) ?_
            rw [mayM_Sc hS]
            refine aw_ifz_eq (tgt := 59) hO dX12_lead_44 rfl rfl (fun c44 => ?_) (fun c44 => ?_)
            · refine aw_iload_n hO dX12_lead_59 rfl rfl ?_
              refine aw_istore_n (ls' := [some (vR 0), some (vI v), some (vI x), some (vI ((o : Nat) : Int))]) hO dX12_lead_60 rfl (Nat.le_of_ble_eq_true rfl) rfl rfl ?_
              refine aw_iinc (ls' := [some (vR 0), some (vI v), some (vI x), some (vI (((o : Nat) : Int) + 1))]) hO dX12_lead_61 rfl rfl rfl rfl ?_
              refine aw_lsq (ls' := [some (vR 0), some (vI v), some (vI x), some (vI (((o + 1) : Nat) : Int))]) rfl ?_
              refine aw_goto (tgt := 26) hO dX12_lead_64 rfl ?_
              refine aw_lsq (ls' := [some (vR 0), some (vI v), some (vI x), some (vI (((o + 1) : Nat) : Int))]) rfl ?_
              exact ih (o + 1) _ m (by omega) (by rw [leadX, if_neg (fun q => c44 q.2)]; exact hx) hS
            · refine aw_iload_n hO dX12_lead_47 rfl rfl ?_
              refine aw_aload_n hO dX12_lead_48 rfl rfl ?_
              refine aw_iload_n hO dX12_lead_49 rfl rfl ?_
              refine aw_callVE (as := [vI ((o : Nat) : Int)]) (st := [vI x]) hO dX12_lead_50 rfl (lw_t7 112 rfl rfl) kX12_appealOf (T := TX12) rfl (by decide) rfl (ctM_appealOf m (h.Sc hS) (p := o) (by omega)) (by decide) rfl rfl rfl (Nat.le_of_ble_eq_true rfl) (fun v4 μ5 hq6 => ?_)
              obtain ⟨e_v4, s_μ5⟩ := hq6
              rw [appealM_Sc hS] at e_v4
              have q1 := clamp_R (a := rawM μ o)
              rw [show clampI 99 (rawM μ o) = appealM μ o from rfl] at q1
              refine aw_mmax hO dX12_lead_53 rfl (lw_t7 71 rfl rfl) mth_max (by decide) rfl (Nat.le_of_ble_eq_true rfl) ⟨by omega, by omega⟩ ⟨by omega, by omega⟩ ?_
              refine aw_goto (tgt := 60) hO dX12_lead_56 rfl ?_
              refine aw_istore_n (ls' := [some (vR 0), some (vI v), some (vI (max x v4)), some (vI ((o : Nat) : Int))]) hO dX12_lead_60 rfl (Nat.le_of_ble_eq_true rfl) rfl rfl ?_
              refine aw_iinc (ls' := [some (vR 0), some (vI v), some (vI (max x v4)), some (vI (((o : Nat) : Int) + 1))]) hO dX12_lead_61 rfl rfl rfl rfl ?_
              refine aw_lsq (ls' := [some (vR 0), some (vI v), some (vI (max x v4)), some (vI (((o + 1) : Nat) : Int))]) rfl ?_
              refine aw_goto (tgt := 26) hO dX12_lead_64 rfl ?_
              refine aw_lsq (ls' := [some (vR 0), some (vI v), some (vI (max x v4)), some (vI (((o + 1) : Nat) : Int))]) rfl ?_
              exact ih (o + 1) _ μ5 (by omega) (by rw [leadX, if_pos ⟨c36, c44⟩, ← hx, e_v4]) (hS.tr s_μ5)
    exact lp (μ.1 0 25).toNat 0 (-1000000) μ (by omega) rfl Sc.rf
  refine aw_aload_n hO dX12_lead_0 rfl rfl ?_
  refine aw_iload_n hO dX12_lead_1 rfl rfl ?_
  refine aw_callVI (as := [vI v]) (st := []) hO dX12_lead_2 rfl (lw_t7 21 rfl rfl) kX12_isPerson (T := TX12) rfl (by decide) rfl (ctM_isPerson μ h.1 (v := v) hv) (by decide) rfl rfl rfl (Nat.le_of_ble_eq_true rfl) ?_
  refine aw_ifz_eq (tgt := 16) hO dX12_lead_5 rfl rfl (fun c5 => ?_) (fun c5 => ?_)
  · refine aw_ldcw (a := (-1000000)) hO dX12_lead_16 rfl (lw_t7 183 rfl rfl) ?_
    refine aw_iret hO dX12_lead_19 ?_
    exact ⟨_, rfl, by rw [if_neg (fun q => c5 q.1)], Sc.rf⟩
  · refine aw_aload_n hO dX12_lead_8 rfl rfl ?_
    refine aw_iload_n hO dX12_lead_9 rfl rfl ?_
    refine aw_stq (st' := [vI ((v.toNat : Nat) : Int), vR 0]) (by rw [Int.toNat_of_nonneg (by omega)]) ?_
    refine aw_callVI (as := [vI ((v.toNat : Nat) : Int)]) (st := []) hO dX12_lead_10 rfl (lw_t7 108 rfl rfl) kX12_mayBe (T := TX12) rfl (by decide) rfl (ctM_mayBe μ h.1 (p := v.toNat) (by omega)) (by decide) rfl rfl rfl (Nat.le_of_ble_eq_true rfl) ?_
    refine aw_ifz_ne (tgt := 20) hO dX12_lead_13 rfl rfl (fun c13 => ?_) (fun c13 => ?_)
    · refine aw_ldcw (a := (-1000000)) hO dX12_lead_20 rfl (lw_t7 183 rfl rfl) ?_
      refine aw_istore_n (ls' := [some (vR 0), some (vI v), some (vI (-1000000)), none]) hO dX12_lead_23 rfl (Nat.le_of_ble_eq_true rfl) rfl rfl ?_
      refine aw_iconst hO dX12_lead_24 rfl ?_
      refine aw_istore_n (ls' := [some (vR 0), some (vI v), some (vI (-1000000)), some (vI 0)]) hO dX12_lead_25 rfl (Nat.le_of_ble_eq_true rfl) rfl rfl ?_
      refine aw_lsq (ls' := [some (vR 0), some (vI v), some (vI (-1000000)), some (vI ((0 : Nat) : Int))]) rfl ?_
      exact body ⟨c5, c13⟩
    · refine aw_ldcw (a := (-1000000)) hO dX12_lead_16 rfl (lw_t7 183 rfl rfl) ?_
      refine aw_iret hO dX12_lead_19 ?_
      exact ⟨_, rfl, by rw [if_neg (fun q => c13 q.2)], Sc.rf⟩
theorem dX12_shares_0 : decode cX12_shares 0 = .ok (.aload_n 0, 1) := by decide +kernel
theorem dX12_shares_1 : decode cX12_shares 1 = .ok (.iload_n 1, 1) := by decide +kernel
theorem dX12_shares_2 : decode cX12_shares 2 = .ok (.invokevirtual 313, 3) := by decide +kernel
theorem dX12_shares_5 : decode cX12_shares 5 = .ok (.ifCond .eq 14, 3) := by decide +kernel
theorem dX12_shares_8 : decode cX12_shares 8 = .ok (.iload_n 2, 1) := by decide +kernel
theorem dX12_shares_9 : decode cX12_shares 9 = .ok (.iconst 0, 1) := by decide +kernel
theorem dX12_shares_10 : decode cX12_shares 10 = .ok (.sipush 999, 3) := by decide +kernel
theorem dX12_shares_13 : decode cX12_shares 13 = .ok (.invokestatic 205, 3) := by decide +kernel
theorem dX12_shares_16 : decode cX12_shares 16 = .ok (.ifCond .ne 5, 3) := by decide +kernel
theorem dX12_shares_19 : decode cX12_shares 19 = .ok (.iconst (-1), 1) := by decide +kernel
theorem dX12_shares_20 : decode cX12_shares 20 = .ok (.ireturn, 1) := by decide +kernel
theorem dX12_shares_21 : decode cX12_shares 21 = .ok (.iconst 0, 1) := by decide +kernel
theorem dX12_shares_22 : decode cX12_shares 22 = .ok (.istore_n 3, 1) := by decide +kernel
theorem dX12_shares_23 : decode cX12_shares 23 = .ok (.iconst 0, 1) := by decide +kernel
theorem dX12_shares_24 : decode cX12_shares 24 = .ok (.istore 4, 2) := by decide +kernel
theorem dX12_shares_26 : decode cX12_shares 26 = .ok (.iload 4, 2) := by decide +kernel
theorem dX12_shares_28 : decode cX12_shares 28 = .ok (.aload_n 0, 1) := by decide +kernel
theorem dX12_shares_29 : decode cX12_shares 29 = .ok (.getfield 242, 3) := by decide +kernel
theorem dX12_shares_32 : decode cX12_shares 32 = .ok (.if_icmp .ge 22, 3) := by decide +kernel
theorem dX12_shares_35 : decode cX12_shares 35 = .ok (.iload_n 3, 1) := by decide +kernel
theorem dX12_shares_36 : decode cX12_shares 36 = .ok (.aload_n 0, 1) := by decide +kernel
theorem dX12_shares_37 : decode cX12_shares 37 = .ok (.getfield 58, 3) := by decide +kernel
theorem dX12_shares_40 : decode cX12_shares 40 = .ok (.bipush 18, 2) := by decide +kernel
theorem dX12_shares_42 : decode cX12_shares 42 = .ok (.iload 4, 2) := by decide +kernel
theorem dX12_shares_44 : decode cX12_shares 44 = .ok (.iadd, 1) := by decide +kernel
theorem dX12_shares_45 : decode cX12_shares 45 = .ok (.iaload, 1) := by decide +kernel
theorem dX12_shares_46 : decode cX12_shares 46 = .ok (.iadd, 1) := by decide +kernel
theorem dX12_shares_47 : decode cX12_shares 47 = .ok (.istore_n 3, 1) := by decide +kernel
theorem dX12_shares_48 : decode cX12_shares 48 = .ok (.iinc 4 1, 3) := by decide +kernel
theorem dX12_shares_51 : decode cX12_shares 51 = .ok (.goto (-25), 3) := by decide +kernel
theorem dX12_shares_54 : decode cX12_shares 54 = .ok (.iload_n 3, 1) := by decide +kernel
theorem dX12_shares_55 : decode cX12_shares 55 = .ok (.ifCond .ne 7, 3) := by decide +kernel
theorem dX12_shares_58 : decode cX12_shares 58 = .ok (.iconst 0, 1) := by decide +kernel
theorem dX12_shares_59 : decode cX12_shares 59 = .ok (.goto 16, 3) := by decide +kernel
theorem dX12_shares_62 : decode cX12_shares 62 = .ok (.iload_n 2, 1) := by decide +kernel
theorem dX12_shares_63 : decode cX12_shares 63 = .ok (.aload_n 0, 1) := by decide +kernel
theorem dX12_shares_64 : decode cX12_shares 64 = .ok (.getfield 58, 3) := by decide +kernel
theorem dX12_shares_67 : decode cX12_shares 67 = .ok (.bipush 18, 2) := by decide +kernel
theorem dX12_shares_69 : decode cX12_shares 69 = .ok (.iload_n 1, 1) := by decide +kernel
theorem dX12_shares_70 : decode cX12_shares 70 = .ok (.iadd, 1) := by decide +kernel
theorem dX12_shares_71 : decode cX12_shares 71 = .ok (.iaload, 1) := by decide +kernel
theorem dX12_shares_72 : decode cX12_shares 72 = .ok (.imul, 1) := by decide +kernel
theorem dX12_shares_73 : decode cX12_shares 73 = .ok (.iload_n 3, 1) := by decide +kernel
theorem dX12_shares_74 : decode cX12_shares 74 = .ok (.idiv, 1) := by decide +kernel
theorem dX12_shares_75 : decode cX12_shares 75 = .ok (.ireturn, 1) := by decide +kernel
set_option maxHeartbeats 4000000 in
set_option maxRecDepth 100000 in
theorem ctM_shares (μ : Mm) (h : MB μ) {v u : Int} (hv : InR v) (hu : InR u) : CtI PM 2 yX12_shares cX12_shares 5 (some .int) [vR 0, vI v, vI u] μ (if (0 ≤ v ∧ v < μ.1 0 25) ∧ (0 ≤ u ∧ u ≤ 999) then (if sumF (fun p => μ.1 17 (18 + p)) (μ.1 0 25).toNat = 0 then 0 else u * μ.1 17 (18 + v.toNat) / sumF (fun p => μ.1 17 (18 + p)) (μ.1 0 25).toNat) else -1) := by
  refine ct_intro [some (vR 0), some (vI v), some (vI u), none, none] RX12 (by decide) rfl XM rfl (Nat.le_of_ble_eq_true rfl) (fun K hO => ?_)
  have hnp := h.np
  have hsr := sumF_rng (f := (fun p => μ.1 17 (18 + p))) (fun p hp => h.now.cha (j := 18 + p) (by omega) (by omega))
  have body : (0 ≤ v ∧ v < μ.1 0 25) ∧ (0 ≤ u ∧ u ≤ 999) → AW K 26 [some (vR 0), some (vI v), some (vI u), some (vI 0), some (vI ((0 : Nat) : Int))] [] μ := by
    intro hw
    have lp : ∀ (c : Nat) (o : Nat) (s : Int), ((o : Int) + c = μ.1 0 25) → (s = sumF (fun p => μ.1 17 (18 + p)) o) → AW K 26 [some (vR 0), some (vI v), some (vI u), some (vI s), some (vI ((o : Nat) : Int))] [] μ := by
      intro c
      induction c with
      | zero =>
        intro o s ho hs
        have hso := hsr o (by omega)
        rw [← hs] at hso
        refine aw_iload hO dX12_shares_26 rfl rfl ?_
        refine aw_aload_n hO dX12_shares_28 rfl rfl ?_
        refine gM_persons hO dX12_shares_29 rfl ?_
        refine aw_icmp_ge (tgt := 54) hO dX12_shares_32 rfl rfl (inRn (by omega)) ⟨by omega, by omega⟩ (fun c32 => ?_) (fun c32 => ?_)
        · refine aw_iload_n hO dX12_shares_54 rfl rfl ?_
          refine aw_if_ne (tgt := 62) hO dX12_shares_55 rfl rfl ⟨by omega, by omega⟩ (fun c55 => ?_) (fun c55 => ?_)
          · have hcv := h.now.cha (j := 18 + v.toNat) (by omega) (by omega)
            have hml : 0 ≤ u * μ.1 17 (18 + v.toNat) ∧ u * μ.1 17 (18 + v.toNat) ≤ 999 * 99 := ⟨Int.mul_nonneg (by omega) (by omega), Int.mul_le_mul (by omega) (by omega) (by omega) (by omega)⟩
            refine aw_iload_n hO dX12_shares_62 rfl rfl ?_
            refine aw_aload_n hO dX12_shares_63 rfl rfl ?_
            refine gM_now hO dX12_shares_64 rfl ?_
            refine aw_bipush hO dX12_shares_67 rfl (by decide) (by decide) ?_
            refine aw_iload_n hO dX12_shares_69 rfl rfl ?_
            refine aw_iadd hO dX12_shares_70 rfl ?_
            refine aw_ialdn (N := 218) (i := (18 + v.toNat)) hO dX12_shares_71 rfl (by decide) rfl (by decide) (by omega) (by omega) ?_
            refine aw_imul hO dX12_shares_72 rfl ?_
            refine aw_iload_n hO dX12_shares_73 rfl rfl ?_
            refine aw_idiv hO dX12_shares_74 rfl (by omega) (by omega) (by omega) (by omega) ?_
            refine aw_iret hO dX12_shares_75 ?_
            exact rI (by rw [if_pos hw, show (μ.1 0 25).toNat = o by omega, ← hs, if_neg c55])
          · refine aw_iconst hO dX12_shares_58 rfl ?_
            refine aw_goto (tgt := 75) hO dX12_shares_59 rfl ?_
            refine aw_iret hO dX12_shares_75 ?_
            exact rI (by rw [if_pos hw, show (μ.1 0 25).toNat = o by omega, ← hs, if_pos c55])
        · exact absurd c32 (by omega)
      | succ c ih =>
        intro o s ho hs
        have hso := hsr o (by omega)
        rw [← hs] at hso
        refine aw_iload hO dX12_shares_26 rfl rfl ?_
        refine aw_aload_n hO dX12_shares_28 rfl rfl ?_
        refine gM_persons hO dX12_shares_29 rfl ?_
        refine aw_icmp_ge (tgt := 54) hO dX12_shares_32 rfl rfl (inRn (by omega)) ⟨by omega, by omega⟩ (fun c32 => ?_) (fun c32 => ?_)
        · exact absurd c32 (by omega)
        · refine aw_iload_n hO dX12_shares_35 rfl rfl ?_
          refine aw_aload_n hO dX12_shares_36 rfl rfl ?_
          refine gM_now hO dX12_shares_37 rfl ?_
          refine aw_bipush hO dX12_shares_40 rfl (by decide) (by decide) ?_
          refine aw_iload hO dX12_shares_42 rfl rfl ?_
          refine aw_iadd hO dX12_shares_44 rfl ?_
          refine aw_ialdn (N := 218) (i := (18 + o)) hO dX12_shares_45 rfl (by decide) rfl (by decide) (by omega) (by omega) ?_
          refine aw_iadd hO dX12_shares_46 rfl ?_
          refine aw_istore_n (ls' := [some (vR 0), some (vI v), some (vI u), some (vI (s + (μ.1 17 (18 + o)))), some (vI ((o : Nat) : Int))]) hO dX12_shares_47 rfl (Nat.le_of_ble_eq_true rfl) rfl rfl ?_
          refine aw_iinc (ls' := [some (vR 0), some (vI v), some (vI u), some (vI (s + (μ.1 17 (18 + o)))), some (vI (((o : Nat) : Int) + 1))]) hO dX12_shares_48 rfl rfl rfl rfl ?_
          refine aw_lsq (ls' := [some (vR 0), some (vI v), some (vI u), some (vI (s + (μ.1 17 (18 + o)))), some (vI (((o + 1) : Nat) : Int))]) rfl ?_
          refine aw_goto (tgt := 26) hO dX12_shares_51 rfl ?_
          refine aw_lsq (ls' := [some (vR 0), some (vI v), some (vI u), some (vI (s + (μ.1 17 (18 + o)))), some (vI (((o + 1) : Nat) : Int))]) rfl ?_
          exact ih (o + 1) _ (by omega) (by rw [sumF, ← hs])
    exact lp (μ.1 0 25).toNat 0 0 (by omega) rfl
  refine aw_aload_n hO dX12_shares_0 rfl rfl ?_
  refine aw_iload_n hO dX12_shares_1 rfl rfl ?_
  refine aw_callVI (as := [vI v]) (st := []) hO dX12_shares_2 rfl (lw_t7 21 rfl rfl) kX12_isPerson (T := TX12) rfl (by decide) rfl (ctM_isPerson μ h (v := v) hv) (by decide) rfl rfl rfl (Nat.le_of_ble_eq_true rfl) ?_
  refine aw_ifz_eq (tgt := 19) hO dX12_shares_5 rfl rfl (fun c5 => ?_) (fun c5 => ?_)
  · refine aw_iconst hO dX12_shares_19 rfl ?_
    refine aw_iret hO dX12_shares_20 ?_
    exact rI (by rw [if_neg (fun q => c5 q.1)])
  · refine aw_iload_n hO dX12_shares_8 rfl rfl ?_
    refine aw_iconst hO dX12_shares_9 rfl ?_
    refine aw_sipush hO dX12_shares_10 rfl (by decide) (by decide) ?_
    refine aw_callSI (as := [vI u, vI 0, vI 999]) (st := []) hO dX12_shares_13 rfl (lw_t6 172 rfl rfl) kX12_in (ctM_in μ ⟨by omega, by omega⟩ (inRlit _) (inRlit _)) (by decide) rfl rfl rfl (Nat.le_of_ble_eq_true rfl) ?_
    refine aw_ifz_ne (tgt := 21) hO dX12_shares_16 rfl rfl (fun c16 => ?_) (fun c16 => ?_)
    · refine aw_iconst hO dX12_shares_21 rfl ?_
      refine aw_istore_n (ls' := [some (vR 0), some (vI v), some (vI u), some (vI 0), none]) hO dX12_shares_22 rfl (Nat.le_of_ble_eq_true rfl) rfl rfl ?_
      refine aw_iconst hO dX12_shares_23 rfl ?_
      refine aw_istore (ls' := [some (vR 0), some (vI v), some (vI u), some (vI 0), some (vI 0)]) hO dX12_shares_24 rfl (Nat.le_of_ble_eq_true rfl) rfl rfl ?_
      refine aw_lsq (ls' := [some (vR 0), some (vI v), some (vI u), some (vI 0), some (vI ((0 : Nat) : Int))]) rfl ?_
      exact body ⟨c5, c16⟩
    · refine aw_iconst hO dX12_shares_19 rfl ?_
      refine aw_iret hO dX12_shares_20 ?_
      exact rI (by rw [if_neg (fun q => c16 q.2)])
theorem dX12_valueOf_0 : decode cX12_valueOf 0 = .ok (.iload_n 2, 1) := by decide +kernel
theorem dX12_valueOf_1 : decode cX12_valueOf 1 = .ok (.tableswitch 61 0 3 #[31, 37, 47, 54], 31) := by decide +kernel
theorem dX12_valueOf_32 : decode cX12_valueOf 32 = .ok (.aload_n 0, 1) := by decide +kernel
theorem dX12_valueOf_33 : decode cX12_valueOf 33 = .ok (.iload_n 1, 1) := by decide +kernel
theorem dX12_valueOf_34 : decode cX12_valueOf 34 = .ok (.invokevirtual 286, 3) := by decide +kernel
theorem dX12_valueOf_37 : decode cX12_valueOf 37 = .ok (.ireturn, 1) := by decide +kernel
theorem dX12_valueOf_38 : decode cX12_valueOf 38 = .ok (.aload_n 0, 1) := by decide +kernel
theorem dX12_valueOf_39 : decode cX12_valueOf 39 = .ok (.getfield 58, 3) := by decide +kernel
theorem dX12_valueOf_42 : decode cX12_valueOf 42 = .ok (.bipush 18, 2) := by decide +kernel
theorem dX12_valueOf_44 : decode cX12_valueOf 44 = .ok (.iload_n 1, 1) := by decide +kernel
theorem dX12_valueOf_45 : decode cX12_valueOf 45 = .ok (.iadd, 1) := by decide +kernel
theorem dX12_valueOf_46 : decode cX12_valueOf 46 = .ok (.iaload, 1) := by decide +kernel
theorem dX12_valueOf_47 : decode cX12_valueOf 47 = .ok (.ireturn, 1) := by decide +kernel
theorem dX12_valueOf_48 : decode cX12_valueOf 48 = .ok (.aload_n 0, 1) := by decide +kernel
theorem dX12_valueOf_49 : decode cX12_valueOf 49 = .ok (.iload_n 1, 1) := by decide +kernel
theorem dX12_valueOf_50 : decode cX12_valueOf 50 = .ok (.iconst 2, 1) := by decide +kernel
theorem dX12_valueOf_51 : decode cX12_valueOf 51 = .ok (.invokevirtual 264, 3) := by decide +kernel
theorem dX12_valueOf_54 : decode cX12_valueOf 54 = .ok (.ireturn, 1) := by decide +kernel
theorem dX12_valueOf_55 : decode cX12_valueOf 55 = .ok (.aload_n 0, 1) := by decide +kernel
theorem dX12_valueOf_56 : decode cX12_valueOf 56 = .ok (.iload_n 1, 1) := by decide +kernel
theorem dX12_valueOf_57 : decode cX12_valueOf 57 = .ok (.iconst 0, 1) := by decide +kernel
theorem dX12_valueOf_58 : decode cX12_valueOf 58 = .ok (.invokevirtual 264, 3) := by decide +kernel
theorem dX12_valueOf_61 : decode cX12_valueOf 61 = .ok (.ireturn, 1) := by decide +kernel
theorem dX12_valueOf_62 : decode cX12_valueOf 62 = .ok (.aload_n 0, 1) := by decide +kernel
theorem dX12_valueOf_63 : decode cX12_valueOf 63 = .ok (.iload_n 1, 1) := by decide +kernel
theorem dX12_valueOf_64 : decode cX12_valueOf 64 = .ok (.iconst 1, 1) := by decide +kernel
theorem dX12_valueOf_65 : decode cX12_valueOf 65 = .ok (.invokevirtual 264, 3) := by decide +kernel
theorem dX12_valueOf_68 : decode cX12_valueOf 68 = .ok (.ireturn, 1) := by decide +kernel
set_option maxHeartbeats 4000000 in
set_option maxRecDepth 100000 in
theorem ctM_valueOf (μ : Mm) (h : MG μ) {p : Nat} (hp : p < 6) {u : Int} (hu : InR u) : CtE PM 6 yX12_valueOf cX12_valueOf 3 (some .int) [vR 0, vI ((p : Nat) : Int), vI u] μ (fun r m => r = valM μ u p ∧ Sc s9 μ m) := by
  refine ct_intro [some (vR 0), some (vI ((p : Nat) : Int)), some (vI u)] RX12 (by decide) rfl XM rfl (Nat.le_of_ble_eq_true rfl) (fun K hO => ?_)
  refine aw_iload_n hO dX12_valueOf_0 rfl rfl ?_
  by_cases hc0 : u = 0
  · refine aw_tableIn (tgt := 32) hO dX12_valueOf_1 ⟨by omega, by omega⟩ (by omega) (by omega) (by rw [hc0]; rfl) rfl ?_
    refine aw_aload_n hO dX12_valueOf_32 rfl rfl ?_
    refine aw_iload_n hO dX12_valueOf_33 rfl rfl ?_
    refine aw_callVE (as := [vI ((p : Nat) : Int)]) (st := []) hO dX12_valueOf_34 rfl (lw_t7 112 rfl rfl) kX12_appealOf (T := TX12) rfl (by decide) rfl (ctM_appealOf μ h (p := p) hp) (by decide) rfl rfl rfl (Nat.le_of_ble_eq_true rfl) (fun v1 μ2 hq3 => ?_)
    obtain ⟨e_v1, s_μ2⟩ := hq3
    refine aw_iret hO dX12_valueOf_37 ?_
    exact ⟨_, rfl, by unfold valM; rw [if_pos hc0]; exact e_v1, s_μ2⟩
  by_cases hc1 : u = 1
  · refine aw_tableIn (tgt := 38) hO dX12_valueOf_1 ⟨by omega, by omega⟩ (by omega) (by omega) (by rw [hc1]; rfl) rfl ?_
    refine aw_aload_n hO dX12_valueOf_38 rfl rfl ?_
    refine gM_now hO dX12_valueOf_39 rfl ?_
    refine aw_bipush hO dX12_valueOf_42 rfl (by decide) (by decide) ?_
    refine aw_iload_n hO dX12_valueOf_44 rfl rfl ?_
    refine aw_iadd hO dX12_valueOf_45 rfl ?_
    refine aw_ialdn (N := 218) (i := (18 + p)) hO dX12_valueOf_46 rfl (by decide) rfl (by decide) (by omega) (by omega) ?_
    refine aw_iret hO dX12_valueOf_47 ?_
    exact ⟨_, rfl, by unfold valM; rw [if_neg hc0, if_pos hc1], Sc.rf⟩
  by_cases hc2 : u = 2
  · refine aw_tableIn (tgt := 48) hO dX12_valueOf_1 ⟨by omega, by omega⟩ (by omega) (by omega) (by rw [hc2]; rfl) rfl ?_
    refine aw_aload_n hO dX12_valueOf_48 rfl rfl ?_
    refine aw_iload_n hO dX12_valueOf_49 rfl rfl ?_
    refine aw_iconst hO dX12_valueOf_50 rfl ?_
    refine aw_callVI (as := [vI ((p : Nat) : Int), vI 2]) (st := []) hO dX12_valueOf_51 rfl (lw_t7 25 rfl rfl) kX12_of (T := TX12) rfl (by decide) rfl (ctM_of μ (p := p) (k := 2) (by omega) (by omega)) (by decide) rfl rfl rfl (Nat.le_of_ble_eq_true rfl) ?_
    refine aw_iret hO dX12_valueOf_54 ?_
    exact ⟨_, rfl, by unfold valM; rw [if_neg hc0, if_neg hc1, if_pos hc2], Sc.rf⟩
  by_cases hc3 : u = 3
  · refine aw_tableIn (tgt := 55) hO dX12_valueOf_1 ⟨by omega, by omega⟩ (by omega) (by omega) (by rw [hc3]; rfl) rfl ?_
    refine aw_aload_n hO dX12_valueOf_55 rfl rfl ?_
    refine aw_iload_n hO dX12_valueOf_56 rfl rfl ?_
    refine aw_iconst hO dX12_valueOf_57 rfl ?_
    refine aw_callVI (as := [vI ((p : Nat) : Int), vI 0]) (st := []) hO dX12_valueOf_58 rfl (lw_t7 25 rfl rfl) kX12_of (T := TX12) rfl (by decide) rfl (ctM_of μ (p := p) (k := 0) (by omega) (by omega)) (by decide) rfl rfl rfl (Nat.le_of_ble_eq_true rfl) ?_
    refine aw_iret hO dX12_valueOf_61 ?_
    exact ⟨_, rfl, by unfold valM; rw [if_neg hc0, if_neg hc1, if_neg hc2, if_pos hc3]; rfl, Sc.rf⟩
  refine aw_tableOut (tgt := 62) hO dX12_valueOf_1 ⟨by omega, by omega⟩ (by omega) rfl ?_
  refine aw_aload_n hO dX12_valueOf_62 rfl rfl ?_
  refine aw_iload_n hO dX12_valueOf_63 rfl rfl ?_
  refine aw_iconst hO dX12_valueOf_64 rfl ?_
  refine aw_callVI (as := [vI ((p : Nat) : Int), vI 1]) (st := []) hO dX12_valueOf_65 rfl (lw_t7 25 rfl rfl) kX12_of (T := TX12) rfl (by decide) rfl (ctM_of μ (p := p) (k := 1) (by omega) (by omega)) (by decide) rfl rfl rfl (Nat.le_of_ble_eq_true rfl) ?_
  refine aw_iret hO dX12_valueOf_68 ?_
  exact ⟨_, rfl, by unfold valM; rw [if_neg hc0, if_neg hc1, if_neg hc2, if_neg hc3], Sc.rf⟩
theorem dX12_topBy_0 : decode cX12_topBy 0 = .ok (.iconst 0, 1) := by decide +kernel
theorem dX12_topBy_1 : decode cX12_topBy 1 = .ok (.istore_n 2, 1) := by decide +kernel
theorem dX12_topBy_2 : decode cX12_topBy 2 = .ok (.iconst 1, 1) := by decide +kernel
theorem dX12_topBy_3 : decode cX12_topBy 3 = .ok (.istore_n 3, 1) := by decide +kernel
theorem dX12_topBy_4 : decode cX12_topBy 4 = .ok (.iload_n 3, 1) := by decide +kernel
theorem dX12_topBy_5 : decode cX12_topBy 5 = .ok (.aload_n 0, 1) := by decide +kernel
theorem dX12_topBy_6 : decode cX12_topBy 6 = .ok (.getfield 242, 3) := by decide +kernel
theorem dX12_topBy_9 : decode cX12_topBy 9 = .ok (.if_icmp .ge 30, 3) := by decide +kernel
theorem dX12_topBy_12 : decode cX12_topBy 12 = .ok (.aload_n 0, 1) := by decide +kernel
theorem dX12_topBy_13 : decode cX12_topBy 13 = .ok (.iload_n 3, 1) := by decide +kernel
theorem dX12_topBy_14 : decode cX12_topBy 14 = .ok (.iload_n 1, 1) := by decide +kernel
theorem dX12_topBy_15 : decode cX12_topBy 15 = .ok (.invokevirtual 421, 3) := by decide +kernel
theorem dX12_topBy_18 : decode cX12_topBy 18 = .ok (.aload_n 0, 1) := by decide +kernel
theorem dX12_topBy_19 : decode cX12_topBy 19 = .ok (.iload_n 2, 1) := by decide +kernel
theorem dX12_topBy_20 : decode cX12_topBy 20 = .ok (.iload_n 1, 1) := by decide +kernel
theorem dX12_topBy_21 : decode cX12_topBy 21 = .ok (.invokevirtual 421, 3) := by decide +kernel
theorem dX12_topBy_24 : decode cX12_topBy 24 = .ok (.if_icmp .le 7, 3) := by decide +kernel
theorem dX12_topBy_27 : decode cX12_topBy 27 = .ok (.iload_n 3, 1) := by decide +kernel
theorem dX12_topBy_28 : decode cX12_topBy 28 = .ok (.goto 4, 3) := by decide +kernel
theorem dX12_topBy_31 : decode cX12_topBy 31 = .ok (.iload_n 2, 1) := by decide +kernel
theorem dX12_topBy_32 : decode cX12_topBy 32 = .ok (.istore_n 2, 1) := by decide +kernel
theorem dX12_topBy_33 : decode cX12_topBy 33 = .ok (.iinc 3 1, 3) := by decide +kernel
theorem dX12_topBy_36 : decode cX12_topBy 36 = .ok (.goto (-32), 3) := by decide +kernel
theorem dX12_topBy_39 : decode cX12_topBy 39 = .ok (.iload_n 2, 1) := by decide +kernel
theorem dX12_topBy_40 : decode cX12_topBy 40 = .ok (.ireturn, 1) := by decide +kernel
set_option maxHeartbeats 4000000 in
set_option maxRecDepth 100000 in
theorem ctM_topBy (μ : Mm) (h : MG μ) (hpp : μ.1 0 25 ≠ 0) {u : Int} (hu : InR u) : CtE PM 7 yX12_topBy cX12_topBy 4 (some .int) [vR 0, vI u] μ (fun r m => r = best allT (valM μ u) (μ.1 0 25).toNat ∧ Sc s9 μ m) := by
  refine ct_intro [some (vR 0), some (vI u), none, none] RX12 (by decide) rfl XM rfl (Nat.le_of_ble_eq_true rfl) (fun K hO => ?_)
  have hnp := h.1.np
  have lp : ∀ (c : Nat) (p : Nat) (b : Int) (m : Mm), ((p : Int) + c = μ.1 0 25) → (1 ≤ p) → (b = best allT (valM μ u) p) → (Sc s9 μ m) → AW K 4 [some (vR 0), some (vI u), some (vI b), some (vI ((p : Nat) : Int))] [] m := by
    intro c
    induction c with
    | zero =>
      intro p b m hp hp1 hb hS
      refine aw_iload_n hO dX12_topBy_4 rfl rfl ?_
      refine aw_aload_n hO dX12_topBy_5 rfl rfl ?_
      refine gM_persons hO dX12_topBy_6 rfl ?_
      refine aw_cg (hS.1 0 25 rfl) ?_
      refine aw_icmp_ge (tgt := 39) hO dX12_topBy_9 rfl rfl (inRn (by omega)) ⟨by omega, by omega⟩ (fun c9 => ?_) (fun c9 => ?_)
      · refine aw_iload_n hO dX12_topBy_39 rfl rfl ?_
        refine aw_iret hO dX12_topBy_40 ?_
        exact ⟨_, rfl, by rw [hb, show (μ.1 0 25).toNat = p by omega], hS⟩
      · exact absurd c9 (by omega)
    | succ c ih =>
      intro p b m hp hp1 hb hS
      refine aw_iload_n hO dX12_topBy_4 rfl rfl ?_
      refine aw_aload_n hO dX12_topBy_5 rfl rfl ?_
      refine gM_persons hO dX12_topBy_6 rfl ?_
      refine aw_cg (hS.1 0 25 rfl) ?_
      refine aw_icmp_ge (tgt := 39) hO dX12_topBy_9 rfl rfl (inRn (by omega)) ⟨by omega, by omega⟩ (fun c9 => ?_) (fun c9 => ?_)
      · exact absurd c9 (by omega)
      · have hbr := bestT_rng (valM μ u) hp1
        rw [← hb] at hbr
        refine aw_aload_n hO dX12_topBy_12 rfl rfl ?_
        refine aw_iload_n hO dX12_topBy_13 rfl rfl ?_
        refine aw_iload_n hO dX12_topBy_14 rfl rfl ?_
        refine aw_callVE (as := [vI ((p : Nat) : Int), vI u]) (st := []) hO dX12_topBy_15 rfl (lw_t8 72 rfl rfl) kX12_valueOf (T := TX12) rfl (by decide) rfl (ctM_valueOf m (h.Sc hS) (p := p) (by omega) hu) (by decide) rfl rfl rfl (Nat.le_of_ble_eq_true rfl) (fun v1 μ2 hq3 => ?_)
        obtain ⟨e_v1, s_μ2⟩ := hq3
        rw [valM_Sc hS] at e_v1
        have hS1 := hS.tr s_μ2
        refine aw_aload_n hO dX12_topBy_18 rfl rfl ?_
        refine aw_iload_n hO dX12_topBy_19 rfl rfl ?_
        refine aw_iload_n hO dX12_topBy_20 rfl rfl ?_
        refine aw_stq (st' := [vI u, vI ((b.toNat : Nat) : Int), vR 0, vI v1]) (by rw [Int.toNat_of_nonneg (by omega)]) ?_
        refine aw_callVE (as := [vI ((b.toNat : Nat) : Int), vI u]) (st := [vI v1]) hO dX12_topBy_21 rfl (lw_t8 72 rfl rfl) kX12_valueOf (T := TX12) rfl (by decide) rfl (ctM_valueOf μ2 (h.Sc hS1) (p := b.toNat) (by omega) hu) (by decide) rfl rfl rfl (Nat.le_of_ble_eq_true rfl) (fun v4 μ5 hq6 => ?_)
        obtain ⟨e_v4, s_μ5⟩ := hq6
        rw [valM_Sc hS1] at e_v4
        have hS2 := hS1.tr s_μ5
        have q1 := valM_rng h.1 u (p := p) (by omega)
        have q2 := valM_rng h.1 u (p := b.toNat) (by omega)
        refine aw_icmp_le (tgt := 31) hO dX12_topBy_24 rfl rfl ⟨by omega, by omega⟩ ⟨by omega, by omega⟩ (fun c24 => ?_) (fun c24 => ?_)
        · refine aw_iload_n hO dX12_topBy_31 rfl rfl ?_
          refine aw_istore_n (ls' := [some (vR 0), some (vI u), some (vI b), some (vI ((p : Nat) : Int))]) hO dX12_topBy_32 rfl (Nat.le_of_ble_eq_true rfl) rfl rfl ?_
          refine aw_iinc (ls' := [some (vR 0), some (vI u), some (vI b), some (vI (((p : Nat) : Int) + 1))]) hO dX12_topBy_33 rfl rfl rfl rfl ?_
          refine aw_lsq (ls' := [some (vR 0), some (vI u), some (vI b), some (vI (((p + 1) : Nat) : Int))]) rfl ?_
          refine aw_goto (tgt := 4) hO dX12_topBy_36 rfl ?_
          refine aw_lsq (ls' := [some (vR 0), some (vI u), some (vI b), some (vI (((p + 1) : Nat) : Int))]) rfl ?_
          exact ih (p + 1) _ μ5 (by omega) (by omega) (by rw [best_st hp1, ← hb, if_neg (by rw [← e_v1, ← e_v4]; omega)]) hS2
        · refine aw_iload_n hO dX12_topBy_27 rfl rfl ?_
          refine aw_goto (tgt := 32) hO dX12_topBy_28 rfl ?_
          refine aw_istore_n (ls' := [some (vR 0), some (vI u), some (vI ((p : Nat) : Int)), some (vI ((p : Nat) : Int))]) hO dX12_topBy_32 rfl (Nat.le_of_ble_eq_true rfl) rfl rfl ?_
          refine aw_iinc (ls' := [some (vR 0), some (vI u), some (vI ((p : Nat) : Int)), some (vI (((p : Nat) : Int) + 1))]) hO dX12_topBy_33 rfl rfl rfl rfl ?_
          refine aw_lsq (ls' := [some (vR 0), some (vI u), some (vI ((p : Nat) : Int)), some (vI (((p + 1) : Nat) : Int))]) rfl ?_
          refine aw_goto (tgt := 4) hO dX12_topBy_36 rfl ?_
          refine aw_lsq (ls' := [some (vR 0), some (vI u), some (vI ((p : Nat) : Int)), some (vI (((p + 1) : Nat) : Int))]) rfl ?_
          exact ih (p + 1) _ μ5 (by omega) (by omega) (by rw [best_st hp1, ← hb, if_pos (by rw [← e_v1, ← e_v4]; exact c24)]) hS2
  refine aw_iconst hO dX12_topBy_0 rfl ?_
  refine aw_istore_n (ls' := [some (vR 0), some (vI u), some (vI 0), none]) hO dX12_topBy_1 rfl (Nat.le_of_ble_eq_true rfl) rfl rfl ?_
  refine aw_iconst hO dX12_topBy_2 rfl ?_
  refine aw_istore_n (ls' := [some (vR 0), some (vI u), some (vI 0), some (vI 1)]) hO dX12_topBy_3 rfl (Nat.le_of_ble_eq_true rfl) rfl rfl ?_
  refine aw_lsq (ls' := [some (vR 0), some (vI u), some (vI 0), some (vI ((1 : Nat) : Int))]) rfl ?_
  exact lp ((μ.1 0 25).toNat - 1) 1 0 μ (by omega) (by omega) (best1 _).symm Sc.rf
