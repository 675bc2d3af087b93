
/-! ## what is asked apart: it leaves all but scratch -/
def scr (k i : Nat) : Prop := k = 9 ∨ k = 10 ∨ k = 20 ∨ (k = 0 ∧ (i = 31 ∨ i = 32 ∨ i = 33 ∨ i = 42 ∨ i = 43))
def Scr (μ m : Mm) : Prop := (∀ k i, ¬ scr k i → m.1 k i = μ.1 k i) ∧ m.2 = μ.2
theorem Scr.rf {μ : Mm} : Scr μ μ := ⟨fun _ _ _ => rfl, rfl⟩
theorem Scr.tr {a b c : Mm} (h : Scr a b) (h2 : Scr b c) : Scr a c := ⟨fun k i hk => (h2.1 k i hk).trans (h.1 k i hk), h2.2.trans h.2⟩
theorem Sc.toScr {a b : Mm} (h : Sc s9 a b) : Scr a b := ⟨fun k i hk => h.1 k i (by unfold scr at hk; unfold s9; simp; omega), h.2⟩
theorem Scr.fn {μ m : Mm} (h : Scr μ m) {k : Nat} (hk : k ≠ 9 ∧ k ≠ 10 ∧ k ≠ 20 ∧ k ≠ 0) : m.1 k = μ.1 k := funext fun i => h.1 k i (by unfold scr; omega)
theorem Scr.f0 {μ m : Mm} (h : Scr μ m) {i : Nat} (hi : i < 31 ∨ (33 < i ∧ i < 42) ∨ 43 < i) : m.1 0 i = μ.1 0 i := h.1 0 i (by unfold scr; omega)
theorem Scr.E {μ m : Mm} (h : Scr μ m) : EqW μ m := ⟨⟨h.f0 (by omega), h.f0 (by omega), h.f0 (by omega)⟩, h.fn (by omega), h.fn (by omega), h.fn (by omega), h.fn (by omega), h.fn (by omega), h.fn (by omega), h.fn (by omega), h.fn (by omega), h.fn (by omega), h.fn (by omega)⟩
theorem MG.Scr {μ m : Mm} (hG : MG μ) (h : Scr μ m) : MG m := MG_W hG h.E
/-- in the midst: the state F, the true one aside -/
def Ap (μ : Mm) (F : Nat → Int) (m : Mm) : Prop := (∀ k i, ¬ scr k i → k ≠ 17 → m.1 k i = μ.1 k i) ∧ (∀ i, i < 37 → m.1 20 i = μ.1 17 i) ∧ m.1 17 = F ∧ m.2 = μ.2
theorem Ap.put (μ : Mm) : Ap μ (μ.1 17) (mcp μ 20 17 0 0 37) := ⟨fun k i h1 h2 => mcp_nk (by unfold scr at h1; omega), fun i hi => by rw [mcp_in (by omega) (by omega), show 0 + (i - 0) = i by omega], funext fun i => mcp_nk (by decide), rfl⟩
theorem Ap.put' {μ m : Mm} (h : Scr μ m) : Ap μ (μ.1 17) (mcp m 20 17 0 0 37) := ⟨fun k i h1 h2 => by rw [mcp_nk (by unfold scr at h1; omega)]; exact h.1 k i h1, fun i hi => by rw [mcp_in (by omega) (by omega), show 0 + (i - 0) = i by omega]; exact congrFun (h.fn (k := 17) (by omega)) i, funext fun i => by rw [mcp_nk (by decide)]; exact congrFun (h.fn (k := 17) (by omega)) i, h.2⟩
theorem Ap.wr {μ m : Mm} {F : Nat → Int} (h : Ap μ F m) (i : Nat) (v : Int) : Ap μ (fu F i v) (mst m 17 i v) := ⟨fun k j h1 h2 => by rw [mst_nk h2]; exact h.1 k j h1 h2, fun j hj => by rw [mst_nk (by decide)]; exact h.2.1 j hj, by rw [mst_row, mrow_at, h.2.2.1], h.2.2.2⟩
theorem Ap.sc {μ m m2 : Mm} {F : Nat → Int} (h : Ap μ F m) (hs : Sc s9 m m2) : Ap μ F m2 := ⟨fun k i h1 h2 => by rw [hs.1 k i (by unfold scr at h1; unfold s9; simp; omega)]; exact h.1 k i h1 h2, fun i hi => by rw [hs.1 20 i rfl]; exact h.2.1 i hi, by rw [hs.fn (k := 17) rfl]; exact h.2.2.1, hs.2.trans h.2.2.2⟩
theorem Ap.lv {μ m m2 : Mm} {F G : Nat → Int} (h : Ap μ F m) (hs : m2.1 17 = G ∧ OffL m m2) : Ap μ G m2 := ⟨fun k i h1 h2 => by rw [hs.2.1 k i (by unfold scr at h1; omega) (by unfold scr at h1; omega) h2 (by unfold scr at h1; omega)]; exact h.1 k i h1 h2, fun i hi => by rw [hs.2.1 20 i (by decide) (by decide) (by decide) (by omega)]; exact h.2.1 i hi, hs.1, hs.2.2.trans h.2.2.2⟩
theorem Ap.E {μ m : Mm} {F : Nat → Int} (h : Ap μ F m) : EqW (wN μ F) m := by
  obtain ⟨h1, h2, h3, h4⟩ := h
  have hk : ∀ k, k ≠ 9 ∧ k ≠ 10 ∧ k ≠ 20 ∧ k ≠ 0 → k ≠ 17 → m.1 k = μ.1 k := fun k a b => funext fun i => h1 k i (by unfold scr; omega) b
  have h0 : ∀ i, i < 31 → m.1 0 i = μ.1 0 i := fun i hi => h1 0 i (by unfold scr; omega) (by decide)
  refine ⟨⟨h0 25 (by omega), h0 26 (by omega), h0 29 (by omega)⟩, hk 2 (by omega) (by omega), hk 3 (by omega) (by omega), hk 5 (by omega) (by omega), hk 6 (by omega) (by omega), hk 7 (by omega) (by omega), hk 8 (by omega) (by omega), hk 14 (by omega) (by omega), hk 15 (by omega) (by omega), hk 16 (by omega) (by omega), h3⟩
theorem Ap.back {μ m : Mm} {F : Nat → Int} (h : Ap μ F m) (hF : ∀ i, 37 ≤ i → F i = μ.1 17 i) : Scr μ (mcp m 17 20 0 0 37) := by
  obtain ⟨h1, h2, h3, h4⟩ := h
  refine ⟨fun k i hk => ?_, h4⟩
  by_cases e : k = 17
  · subst e
    by_cases hi : i < 37
    · rw [mcp_in (by omega) (by omega), show 0 + (i - 0) = i by omega]; exact h2 i hi
    · rw [mcp_out (by omega), h3]; exact hF i (by omega)
  · rw [mcp_nk e]; exact h1 k i hk e

def feigS (f : Nat → Int) (p : Nat) (a b : Int) : Nat → Int := fu (fu (fu f p (min 9 (f p + 1))) (6 + 2 * p) (f (6 + 2 * p) + a)) (6 + 2 * p + 1) (f (6 + 2 * p + 1) + b)
theorem feigS_ok {f : Nat → Int} (h : NowOK f) {p : Nat} (hp : p < 6) {a b : Int} (ha : 0 ≤ f (6 + 2 * p) + a ∧ f (6 + 2 * p) + a ≤ 3) (hb : 0 ≤ f (6 + 2 * p + 1) + b ∧ f (6 + 2 * p + 1) + b ≤ 3) : NowOK (feigS f p a b) := by
  have hm := h.met hp
  unfold feigS
  refine ((h.upd (i := p) (fun _ => by omega) (by omega) (by omega) (by omega) (by omega) (by omega) (by omega)).upd (by omega) (fun _ _ => ha) (by omega) (by omega) (by omega) (by omega) (by omega)).upd (by omega) (fun _ _ => hb) (by omega) (by omega) (by omega) (by omega) (by omega)
/-- whether he is picked if he feigns so often more -/
def pkB (μ : Mm) (p : Nat) (a b : Int) : Bool := decide (pickM (wN μ (feigS (μ.1 17) p a b)) (μ.1 0 25).toNat = (p : Int))
theorem dX12_isPickedBy_0 : decode cX12_isPickedBy 0 = .ok (.aload_n 0, 1) := by decide +kernel
theorem dX12_isPickedBy_1 : decode cX12_isPickedBy 1 = .ok (.invokevirtual 358, 3) := by decide +kernel
theorem dX12_isPickedBy_4 : decode cX12_isPickedBy 4 = .ok (.aload_n 0, 1) := by decide +kernel
theorem dX12_isPickedBy_5 : decode cX12_isPickedBy 5 = .ok (.iload_n 1, 1) := by decide +kernel
theorem dX12_isPickedBy_6 : decode cX12_isPickedBy 6 = .ok (.invokevirtual 361, 3) := by decide +kernel
theorem dX12_isPickedBy_9 : decode cX12_isPickedBy 9 = .ok (.aload_n 0, 1) := by decide +kernel
theorem dX12_isPickedBy_10 : decode cX12_isPickedBy 10 = .ok (.getfield 58, 3) := by decide +kernel
theorem dX12_isPickedBy_13 : decode cX12_isPickedBy 13 = .ok (.bipush 6, 2) := by decide +kernel
theorem dX12_isPickedBy_15 : decode cX12_isPickedBy 15 = .ok (.iconst 2, 1) := by decide +kernel
theorem dX12_isPickedBy_16 : decode cX12_isPickedBy 16 = .ok (.iload_n 1, 1) := by decide +kernel
theorem dX12_isPickedBy_17 : decode cX12_isPickedBy 17 = .ok (.imul, 1) := by decide +kernel
theorem dX12_isPickedBy_18 : decode cX12_isPickedBy 18 = .ok (.iadd, 1) := by decide +kernel
theorem dX12_isPickedBy_19 : decode cX12_isPickedBy 19 = .ok (.dup2, 1) := by decide +kernel
theorem dX12_isPickedBy_20 : decode cX12_isPickedBy 20 = .ok (.iaload, 1) := by decide +kernel
theorem dX12_isPickedBy_21 : decode cX12_isPickedBy 21 = .ok (.iload_n 2, 1) := by decide +kernel
theorem dX12_isPickedBy_22 : decode cX12_isPickedBy 22 = .ok (.iadd, 1) := by decide +kernel
theorem dX12_isPickedBy_23 : decode cX12_isPickedBy 23 = .ok (.iastore, 1) := by decide +kernel
theorem dX12_isPickedBy_24 : decode cX12_isPickedBy 24 = .ok (.aload_n 0, 1) := by decide +kernel
theorem dX12_isPickedBy_25 : decode cX12_isPickedBy 25 = .ok (.getfield 58, 3) := by decide +kernel
theorem dX12_isPickedBy_28 : decode cX12_isPickedBy 28 = .ok (.bipush 6, 2) := by decide +kernel
theorem dX12_isPickedBy_30 : decode cX12_isPickedBy 30 = .ok (.iconst 2, 1) := by decide +kernel
theorem dX12_isPickedBy_31 : decode cX12_isPickedBy 31 = .ok (.iload_n 1, 1) := by decide +kernel
theorem dX12_isPickedBy_32 : decode cX12_isPickedBy 32 = .ok (.imul, 1) := by decide +kernel
theorem dX12_isPickedBy_33 : decode cX12_isPickedBy 33 = .ok (.iadd, 1) := by decide +kernel
theorem dX12_isPickedBy_34 : decode cX12_isPickedBy 34 = .ok (.iconst 1, 1) := by decide +kernel
theorem dX12_isPickedBy_35 : decode cX12_isPickedBy 35 = .ok (.iadd, 1) := by decide +kernel
theorem dX12_isPickedBy_36 : decode cX12_isPickedBy 36 = .ok (.dup2, 1) := by decide +kernel
theorem dX12_isPickedBy_37 : decode cX12_isPickedBy 37 = .ok (.iaload, 1) := by decide +kernel
theorem dX12_isPickedBy_38 : decode cX12_isPickedBy 38 = .ok (.iload_n 3, 1) := by decide +kernel
theorem dX12_isPickedBy_39 : decode cX12_isPickedBy 39 = .ok (.iadd, 1) := by decide +kernel
theorem dX12_isPickedBy_40 : decode cX12_isPickedBy 40 = .ok (.iastore, 1) := by decide +kernel
theorem dX12_isPickedBy_41 : decode cX12_isPickedBy 41 = .ok (.aload_n 0, 1) := by decide +kernel
theorem dX12_isPickedBy_42 : decode cX12_isPickedBy 42 = .ok (.invokevirtual 295, 3) := by decide +kernel
theorem dX12_isPickedBy_45 : decode cX12_isPickedBy 45 = .ok (.iload_n 1, 1) := by decide +kernel
theorem dX12_isPickedBy_46 : decode cX12_isPickedBy 46 = .ok (.if_icmp .ne 7, 3) := by decide +kernel
theorem dX12_isPickedBy_49 : decode cX12_isPickedBy 49 = .ok (.iconst 1, 1) := by decide +kernel
theorem dX12_isPickedBy_50 : decode cX12_isPickedBy 50 = .ok (.goto 4, 3) := by decide +kernel
theorem dX12_isPickedBy_53 : decode cX12_isPickedBy 53 = .ok (.iconst 0, 1) := by decide +kernel
theorem dX12_isPickedBy_54 : decode cX12_isPickedBy 54 = .ok (.istore 4, 2) := by decide +kernel
theorem dX12_isPickedBy_56 : decode cX12_isPickedBy 56 = .ok (.aload_n 0, 1) := by decide +kernel
theorem dX12_isPickedBy_57 : decode cX12_isPickedBy 57 = .ok (.invokevirtual 364, 3) := by decide +kernel
theorem dX12_isPickedBy_60 : decode cX12_isPickedBy 60 = .ok (.iload 4, 2) := by decide +kernel
theorem dX12_isPickedBy_62 : decode cX12_isPickedBy 62 = .ok (.ireturn, 1) := by decide +kernel
set_option maxHeartbeats 4000000 in
set_option maxRecDepth 100000 in
theorem ctM_isPickedBy (μ n : Mm) (h : MG μ) (hN : Scr μ n) {p a b : Nat} (hp : p < 6) (ha : 0 ≤ μ.1 17 (6 + 2 * p) + a ∧ μ.1 17 (6 + 2 * p) + a ≤ 3) (hb : 0 ≤ μ.1 17 (6 + 2 * p + 1) + b ∧ μ.1 17 (6 + 2 * p + 1) + b ≤ 3) : CtE PM 8 yX12_isPickedBy cX12_isPickedBy 5 (some .boolean) [vR 0, vI ((p : Nat) : Int), vI ((a : Nat) : Int), vI ((b : Nat) : Int)] n (fun r m => r = (if pkB μ p a b = true then 1 else 0) ∧ Scr μ m) := by
  refine ct_intro [some (vR 0), some (vI ((p : Nat) : Int)), some (vI ((a : Nat) : Int)), some (vI ((b : Nat) : Int)), none] RX12 (by decide) rfl XM rfl (Nat.le_of_ble_eq_true rfl) (fun K hO => ?_)
  have h17 : n.1 17 = μ.1 17 := hN.fn (by omega)
  refine aw_aload_n hO dX12_isPickedBy_0 rfl rfl ?_
  refine aw_callVV (as := []) (st := []) hO dX12_isPickedBy_1 rfl (lw_t7 200 rfl rfl) kX12_putAside (T := TX12) rfl (by decide) rfl (ctM_putAside n) (by decide) rfl rfl rfl (Nat.le_of_ble_eq_true rfl) (fun μ2 hq3 => ?_)
  have hA_μ2 : Ap μ (μ.1 17) μ2 := by rw [hq3]; exact Ap.put' hN
  refine aw_aload_n hO dX12_isPickedBy_4 rfl rfl ?_
  refine aw_iload_n hO dX12_isPickedBy_5 rfl rfl ?_
  refine aw_callVV (as := [vI ((p : Nat) : Int)]) (st := []) hO dX12_isPickedBy_6 rfl (lw_t7 204 rfl rfl) kX12_meetMore (T := TX12) rfl (by decide) rfl (ctM_meetMore μ2 (MG_W (MG_N h h.1.now) hA_μ2.E).1 (p := p) (by omega)) (by decide) rfl rfl rfl (Nat.le_of_ble_eq_true rfl) (fun μ5 hq6 => ?_)
  have hA_μ5 : Ap μ (fu (μ.1 17) p (min 9 ((μ.1 17) p + 1))) μ5 := by rw [hq6, congrFun hA_μ2.2.2.1]; exact hA_μ2.wr _ _
  refine aw_aload_n hO dX12_isPickedBy_9 rfl rfl ?_
  refine gM_now hO dX12_isPickedBy_10 rfl ?_
  refine aw_bipush hO dX12_isPickedBy_13 rfl (by decide) (by decide) ?_
  refine aw_iconst hO dX12_isPickedBy_15 rfl ?_
  refine aw_iload_n hO dX12_isPickedBy_16 rfl rfl ?_
  refine aw_imul hO dX12_isPickedBy_17 rfl ?_
  refine aw_iadd hO dX12_isPickedBy_18 rfl ?_
  refine aw_dup2 hO dX12_isPickedBy_19 rfl rfl rfl ?_
  refine aw_ialdn (N := 218) (i := (6 + 2 * p)) hO dX12_isPickedBy_20 rfl (by decide) rfl (by decide) (by omega) (by omega) ?_
  refine aw_cg (congrFun hA_μ5.2.2.1 (6 + 2 * p)) ?_
  refine aw_cg (show ((fu (μ.1 17) p (min 9 ((μ.1 17) p + 1))) (6 + 2 * p)) = μ.1 17 (6 + 2 * p) from fu_ne (by omega)) ?_
  refine aw_iload_n hO dX12_isPickedBy_21 rfl rfl ?_
  refine aw_iadd hO dX12_isPickedBy_22 rfl ?_
  refine aw_iastn (N := 218) (i := (6 + 2 * p)) hO dX12_isPickedBy_23 rfl (by decide) rfl (by decide) (by omega) (by omega) ?_
  refine aw_mm (fun μ7 e_μ7 => ?_)
  have hA_μ7 : Ap μ (fu (fu (μ.1 17) p (min 9 ((μ.1 17) p + 1))) (6 + 2 * p) ((μ.1 17 (6 + 2 * p)) + ((a : Nat) : Int))) μ7 := by rw [e_μ7]; exact hA_μ5.wr _ _
  refine aw_aload_n hO dX12_isPickedBy_24 rfl rfl ?_
  refine gM_now hO dX12_isPickedBy_25 rfl ?_
  refine aw_bipush hO dX12_isPickedBy_28 rfl (by decide) (by decide) ?_
  refine aw_iconst hO dX12_isPickedBy_30 rfl ?_
  refine aw_iload_n hO dX12_isPickedBy_31 rfl rfl ?_
  refine aw_imul hO dX12_isPickedBy_32 rfl ?_
  refine aw_iadd hO dX12_isPickedBy_33 rfl ?_
  refine aw_iconst hO dX12_isPickedBy_34 rfl ?_
  refine aw_iadd hO dX12_isPickedBy_35 rfl ?_
  refine aw_dup2 hO dX12_isPickedBy_36 rfl rfl rfl ?_
  refine aw_ialdn (N := 218) (i := (6 + 2 * p + 1)) hO dX12_isPickedBy_37 rfl (by decide) rfl (by decide) (by omega) (by omega) ?_
  refine aw_cg (congrFun hA_μ7.2.2.1 (6 + 2 * p + 1)) ?_
  refine aw_cg (show ((fu (fu (μ.1 17) p (min 9 ((μ.1 17) p + 1))) (6 + 2 * p) ((μ.1 17 (6 + 2 * p)) + ((a : Nat) : Int))) (6 + 2 * p + 1)) = μ.1 17 (6 + 2 * p + 1) by rw [fu_ne (by omega), fu_ne (by omega)]) ?_
  refine aw_iload_n hO dX12_isPickedBy_38 rfl rfl ?_
  refine aw_iadd hO dX12_isPickedBy_39 rfl ?_
  refine aw_iastn (N := 218) (i := (6 + 2 * p + 1)) hO dX12_isPickedBy_40 rfl (by decide) rfl (by decide) (by omega) (by omega) ?_
  refine aw_mm (fun μ8 e_μ8 => ?_)
  have hA_μ8 : Ap μ (fu (fu (fu (μ.1 17) p (min 9 ((μ.1 17) p + 1))) (6 + 2 * p) ((μ.1 17 (6 + 2 * p)) + ((a : Nat) : Int))) (6 + 2 * p + 1) ((μ.1 17 (6 + 2 * p + 1)) + ((b : Nat) : Int))) μ8 := by rw [e_μ8]; exact hA_μ7.wr _ _
  refine aw_aload_n hO dX12_isPickedBy_41 rfl rfl ?_
  have hAf : Ap μ (feigS (μ.1 17) p a b) μ8 := hA_μ8
  refine aw_callVE (as := []) (st := []) hO dX12_isPickedBy_42 rfl (lw_t7 141 rfl rfl) kX12_picked (T := TX12) rfl (by decide) rfl (ctM_picked μ8 (MG_W (MG_N h (feigS_ok h.1.now hp ha hb)) hAf.E)) (by decide) rfl rfl rfl (Nat.le_of_ble_eq_true rfl) (fun v9 μ10 hq11 => ?_)
  obtain ⟨e_v9, s_μ10⟩ := hq11
  rw [pickM_W hAf.E, hAf.E.1.1] at e_v9
  have hA_μ10 := hAf.sc s_μ10
  have q1 := pickM_rng (wN μ (feigS (μ.1 17) p a b)) (μ.1 0 25).toNat
  have hnp := h.1.np
  have q2 : v9 = -1 ∨ (0 ≤ v9 ∧ v9 < 6) := by rw [e_v9]; rw [show (wN μ (feigS (μ.1 17) p a b)).1 0 25 = μ.1 0 25 from rfl]; omega
  refine aw_iload_n hO dX12_isPickedBy_45 rfl rfl ?_
  refine aw_icmp_ne (tgt := 53) hO dX12_isPickedBy_46 rfl rfl ⟨by omega, by omega⟩ (inRn (by omega)) (fun c46 => ?_) (fun c46 => ?_)
  · refine aw_iconst hO dX12_isPickedBy_53 rfl ?_
    refine aw_istore (ls' := [some (vR 0), some (vI ((p : Nat) : Int)), some (vI ((a : Nat) : Int)), some (vI ((b : Nat) : Int)), some (vI 0)]) hO dX12_isPickedBy_54 rfl (Nat.le_of_ble_eq_true rfl) rfl rfl ?_
    refine aw_aload_n hO dX12_isPickedBy_56 rfl rfl ?_
    refine aw_callVV (as := []) (st := []) hO dX12_isPickedBy_57 rfl (lw_t7 208 rfl rfl) kX12_takeBack (T := TX12) rfl (by decide) rfl (ctM_takeBack μ10) (by decide) rfl rfl rfl (Nat.le_of_ble_eq_true rfl) (fun μ13 hq14 => ?_)
    have hR_μ13 : Scr μ μ13 := by rw [hq14]; exact hA_μ10.back (by intro i hi; unfold feigS; rw [fu_ne (by omega), fu_ne (by omega), fu_ne (by omega)])
    refine aw_iload hO dX12_isPickedBy_60 rfl rfl ?_
    refine aw_zret hO dX12_isPickedBy_62 (Or.inl rfl) ?_
    exact ⟨_, rfl, by simp only [pkB, decide_eq_true_eq]; rw [if_neg (by rw [show pickM (wN μ (feigS (μ.1 17) p a b)) (μ.1 0 25).toNat = v9 from e_v9.symm]; exact c46)], hR_μ13⟩
  · refine aw_iconst hO dX12_isPickedBy_49 rfl ?_
    refine aw_goto (tgt := 54) hO dX12_isPickedBy_50 rfl ?_
    refine aw_istore (ls' := [some (vR 0), some (vI ((p : Nat) : Int)), some (vI ((a : Nat) : Int)), some (vI ((b : Nat) : Int)), some (vI 1)]) hO dX12_isPickedBy_54 rfl (Nat.le_of_ble_eq_true rfl) rfl rfl ?_
    refine aw_aload_n hO dX12_isPickedBy_56 rfl rfl ?_
    refine aw_callVV (as := []) (st := []) hO dX12_isPickedBy_57 rfl (lw_t7 208 rfl rfl) kX12_takeBack (T := TX12) rfl (by decide) rfl (ctM_takeBack μ10) (by decide) rfl rfl rfl (Nat.le_of_ble_eq_true rfl) (fun μ16 hq17 => ?_)
    have hR_μ16 : Scr μ μ16 := by rw [hq17]; exact hA_μ10.back (by intro i hi; unfold feigS; rw [fu_ne (by omega), fu_ne (by omega), fu_ne (by omega)])
    refine aw_iload hO dX12_isPickedBy_60 rfl rfl ?_
    refine aw_zret hO dX12_isPickedBy_62 (Or.inr rfl) ?_
    exact ⟨_, rfl, by simp only [pkB, decide_eq_true_eq]; rw [if_pos (by rw [show pickM (wN μ (feigS (μ.1 17) p a b)) (μ.1 0 25).toNat = v9 from e_v9.symm]; exact c46)], hR_μ16⟩

/-- how little feigning: the loops of the reference -/
def fgI (P : Nat → Nat → Bool) (a : Nat) (b0 : Int) : Nat → Int
  | 0 => b0
  | b + 1 => if (fgI P a b0 b = -1 ∨ (a : Int) + b < fgI P a b0 b / 10 + fgI P a b0 b % 10) ∧ P a b = true then 10 * (a : Int) + b else fgI P a b0 b
def fgO (P : Nat → Nat → Bool) (B : Nat) : Nat → Int
  | 0 => -1
  | a + 1 => fgI P a (fgO P B a) B
theorem fgI_rng {P : Nat → Nat → Bool} {a : Nat} {b0 : Int} (ha : a ≤ 3) (h0 : -1 ≤ b0 ∧ b0 ≤ 33) : ∀ b, b ≤ 4 → -1 ≤ fgI P a b0 b ∧ fgI P a b0 b ≤ 33
  | 0, _ => h0
  | b + 1, hb => by
    have := fgI_rng (P := P) ha h0 b (by omega)
    unfold fgI
    split <;> omega
theorem fgO_rng {P : Nat → Nat → Bool} {B : Nat} (hB : B ≤ 4) : ∀ a, a ≤ 4 → -1 ≤ fgO P B a ∧ fgO P B a ≤ 33
  | 0, _ => by unfold fgO; omega
  | a + 1, ha => by
    unfold fgO
    exact fgI_rng (by omega) (fgO_rng hB a (by omega)) B hB
def fgM (μ : Mm) (v : Nat) : Int := fgO (fun a b => pkB μ v a b) (4 - μ.1 17 (6 + 2 * v + 1)).toNat (4 - μ.1 17 (6 + 2 * v)).toNat
theorem dX12_feigning_0 : decode cX12_feigning 0 = .ok (.aload_n 0, 1) := by decide +kernel
theorem dX12_feigning_1 : decode cX12_feigning 1 = .ok (.iload_n 1, 1) := by decide +kernel
theorem dX12_feigning_2 : decode cX12_feigning 2 = .ok (.invokevirtual 313, 3) := by decide +kernel
theorem dX12_feigning_5 : decode cX12_feigning 5 = .ok (.ifCond .eq 11, 3) := by decide +kernel
theorem dX12_feigning_8 : decode cX12_feigning 8 = .ok (.aload_n 0, 1) := by decide +kernel
theorem dX12_feigning_9 : decode cX12_feigning 9 = .ok (.iload_n 1, 1) := by decide +kernel
theorem dX12_feigning_10 : decode cX12_feigning 10 = .ok (.invokevirtual 280, 3) := by decide +kernel
theorem dX12_feigning_13 : decode cX12_feigning 13 = .ok (.ifCond .eq 5, 3) := by decide +kernel
theorem dX12_feigning_16 : decode cX12_feigning 16 = .ok (.iconst (-1), 1) := by decide +kernel
theorem dX12_feigning_17 : decode cX12_feigning 17 = .ok (.ireturn, 1) := by decide +kernel
theorem dX12_feigning_18 : decode cX12_feigning 18 = .ok (.iconst (-1), 1) := by decide +kernel
theorem dX12_feigning_19 : decode cX12_feigning 19 = .ok (.istore_n 2, 1) := by decide +kernel
theorem dX12_feigning_20 : decode cX12_feigning 20 = .ok (.iconst 0, 1) := by decide +kernel
theorem dX12_feigning_21 : decode cX12_feigning 21 = .ok (.istore_n 3, 1) := by decide +kernel
theorem dX12_feigning_22 : decode cX12_feigning 22 = .ok (.iload_n 3, 1) := by decide +kernel
theorem dX12_feigning_23 : decode cX12_feigning 23 = .ok (.iconst 3, 1) := by decide +kernel
theorem dX12_feigning_24 : decode cX12_feigning 24 = .ok (.aload_n 0, 1) := by decide +kernel
theorem dX12_feigning_25 : decode cX12_feigning 25 = .ok (.getfield 58, 3) := by decide +kernel
theorem dX12_feigning_28 : decode cX12_feigning 28 = .ok (.bipush 6, 2) := by decide +kernel
theorem dX12_feigning_30 : decode cX12_feigning 30 = .ok (.iconst 2, 1) := by decide +kernel
theorem dX12_feigning_31 : decode cX12_feigning 31 = .ok (.iload_n 1, 1) := by decide +kernel
theorem dX12_feigning_32 : decode cX12_feigning 32 = .ok (.imul, 1) := by decide +kernel
theorem dX12_feigning_33 : decode cX12_feigning 33 = .ok (.iadd, 1) := by decide +kernel
theorem dX12_feigning_34 : decode cX12_feigning 34 = .ok (.iaload, 1) := by decide +kernel
theorem dX12_feigning_35 : decode cX12_feigning 35 = .ok (.isub, 1) := by decide +kernel
theorem dX12_feigning_36 : decode cX12_feigning 36 = .ok (.if_icmp .gt 94, 3) := by decide +kernel
theorem dX12_feigning_39 : decode cX12_feigning 39 = .ok (.iconst 0, 1) := by decide +kernel
theorem dX12_feigning_40 : decode cX12_feigning 40 = .ok (.istore 4, 2) := by decide +kernel
theorem dX12_feigning_42 : decode cX12_feigning 42 = .ok (.iload 4, 2) := by decide +kernel
theorem dX12_feigning_44 : decode cX12_feigning 44 = .ok (.iconst 3, 1) := by decide +kernel
theorem dX12_feigning_45 : decode cX12_feigning 45 = .ok (.aload_n 0, 1) := by decide +kernel
theorem dX12_feigning_46 : decode cX12_feigning 46 = .ok (.getfield 58, 3) := by decide +kernel
theorem dX12_feigning_49 : decode cX12_feigning 49 = .ok (.bipush 6, 2) := by decide +kernel
theorem dX12_feigning_51 : decode cX12_feigning 51 = .ok (.iconst 2, 1) := by decide +kernel
theorem dX12_feigning_52 : decode cX12_feigning 52 = .ok (.iload_n 1, 1) := by decide +kernel
theorem dX12_feigning_53 : decode cX12_feigning 53 = .ok (.imul, 1) := by decide +kernel
theorem dX12_feigning_54 : decode cX12_feigning 54 = .ok (.iadd, 1) := by decide +kernel
theorem dX12_feigning_55 : decode cX12_feigning 55 = .ok (.iconst 1, 1) := by decide +kernel
theorem dX12_feigning_56 : decode cX12_feigning 56 = .ok (.iadd, 1) := by decide +kernel
theorem dX12_feigning_57 : decode cX12_feigning 57 = .ok (.iaload, 1) := by decide +kernel
theorem dX12_feigning_58 : decode cX12_feigning 58 = .ok (.isub, 1) := by decide +kernel
theorem dX12_feigning_59 : decode cX12_feigning 59 = .ok (.if_icmp .gt 65, 3) := by decide +kernel
theorem dX12_feigning_62 : decode cX12_feigning 62 = .ok (.iload_n 2, 1) := by decide +kernel
theorem dX12_feigning_63 : decode cX12_feigning 63 = .ok (.iconst (-1), 1) := by decide +kernel
theorem dX12_feigning_64 : decode cX12_feigning 64 = .ok (.if_icmp .eq 19, 3) := by decide +kernel
theorem dX12_feigning_67 : decode cX12_feigning 67 = .ok (.iload_n 3, 1) := by decide +kernel
theorem dX12_feigning_68 : decode cX12_feigning 68 = .ok (.iload 4, 2) := by decide +kernel
theorem dX12_feigning_70 : decode cX12_feigning 70 = .ok (.iadd, 1) := by decide +kernel
theorem dX12_feigning_71 : decode cX12_feigning 71 = .ok (.iload_n 2, 1) := by decide +kernel
theorem dX12_feigning_72 : decode cX12_feigning 72 = .ok (.bipush 10, 2) := by decide +kernel
theorem dX12_feigning_74 : decode cX12_feigning 74 = .ok (.idiv, 1) := by decide +kernel
theorem dX12_feigning_75 : decode cX12_feigning 75 = .ok (.iload_n 2, 1) := by decide +kernel
theorem dX12_feigning_76 : decode cX12_feigning 76 = .ok (.bipush 10, 2) := by decide +kernel
theorem dX12_feigning_78 : decode cX12_feigning 78 = .ok (.irem, 1) := by decide +kernel
theorem dX12_feigning_79 : decode cX12_feigning 79 = .ok (.iadd, 1) := by decide +kernel
theorem dX12_feigning_80 : decode cX12_feigning 80 = .ok (.if_icmp .ge 7, 3) := by decide +kernel
theorem dX12_feigning_83 : decode cX12_feigning 83 = .ok (.iconst 1, 1) := by decide +kernel
theorem dX12_feigning_84 : decode cX12_feigning 84 = .ok (.goto 4, 3) := by decide +kernel
theorem dX12_feigning_87 : decode cX12_feigning 87 = .ok (.iconst 0, 1) := by decide +kernel
theorem dX12_feigning_88 : decode cX12_feigning 88 = .ok (.istore 5, 2) := by decide +kernel
theorem dX12_feigning_90 : decode cX12_feigning 90 = .ok (.iload 5, 2) := by decide +kernel
theorem dX12_feigning_92 : decode cX12_feigning 92 = .ok (.ifCond .eq 24, 3) := by decide +kernel
theorem dX12_feigning_95 : decode cX12_feigning 95 = .ok (.aload_n 0, 1) := by decide +kernel
theorem dX12_feigning_96 : decode cX12_feigning 96 = .ok (.iload_n 1, 1) := by decide +kernel
theorem dX12_feigning_97 : decode cX12_feigning 97 = .ok (.iload_n 3, 1) := by decide +kernel
theorem dX12_feigning_98 : decode cX12_feigning 98 = .ok (.iload 4, 2) := by decide +kernel
theorem dX12_feigning_100 : decode cX12_feigning 100 = .ok (.invokevirtual 367, 3) := by decide +kernel
theorem dX12_feigning_103 : decode cX12_feigning 103 = .ok (.ifCond .eq 13, 3) := by decide +kernel
theorem dX12_feigning_106 : decode cX12_feigning 106 = .ok (.bipush 10, 2) := by decide +kernel
theorem dX12_feigning_108 : decode cX12_feigning 108 = .ok (.iload_n 3, 1) := by decide +kernel
theorem dX12_feigning_109 : decode cX12_feigning 109 = .ok (.imul, 1) := by decide +kernel
theorem dX12_feigning_110 : decode cX12_feigning 110 = .ok (.iload 4, 2) := by decide +kernel
theorem dX12_feigning_112 : decode cX12_feigning 112 = .ok (.iadd, 1) := by decide +kernel
theorem dX12_feigning_113 : decode cX12_feigning 113 = .ok (.goto 4, 3) := by decide +kernel
theorem dX12_feigning_116 : decode cX12_feigning 116 = .ok (.iload_n 2, 1) := by decide +kernel
theorem dX12_feigning_117 : decode cX12_feigning 117 = .ok (.istore_n 2, 1) := by decide +kernel
theorem dX12_feigning_118 : decode cX12_feigning 118 = .ok (.iinc 4 1, 3) := by decide +kernel
theorem dX12_feigning_121 : decode cX12_feigning 121 = .ok (.goto (-79), 3) := by decide +kernel
theorem dX12_feigning_124 : decode cX12_feigning 124 = .ok (.iinc 3 1, 3) := by decide +kernel
theorem dX12_feigning_127 : decode cX12_feigning 127 = .ok (.goto (-105), 3) := by decide +kernel
theorem dX12_feigning_130 : decode cX12_feigning 130 = .ok (.iload_n 2, 1) := by decide +kernel
theorem dX12_feigning_131 : decode cX12_feigning 131 = .ok (.ireturn, 1) := by decide +kernel
set_option maxHeartbeats 4000000 in
set_option maxRecDepth 100000 in
theorem ctM_feigning (μ : Mm) (h : MG μ) {v : Int} (hv : InR v) : CtE PM 9 yX12_feigning cX12_feigning 6 (some .int) [vR 0, vI v] μ (fun r m => r = (if (0 ≤ v ∧ v < μ.1 0 25) ∧ hasB (μ.1 17 31) v.toNat = false then fgM μ v.toNat else -1) ∧ Scr μ m) := by
  refine ct_intro [some (vR 0), some (vI v), none, none, none, none] RX12 (by decide) rfl XM rfl (Nat.le_of_ble_eq_true rfl) (fun K hO => ?_)
  have hnp := h.1.np
  have body : (0 ≤ v ∧ v < μ.1 0 25) ∧ hasB (μ.1 17 31) v.toNat = false → AW K 22 [some (vR 0), some (vI v), some (vI (-1)), some (vI ((0 : Nat) : Int)), none, none] [] μ := by
    intro hw
    have hf0 := h.1.now.fei (j := 6 + 2 * v.toNat) (by omega) (by omega)
    have hf1 := h.1.now.fei (j := 6 + 2 * v.toNat + 1) (by omega) (by omega)
    have hvt : ((v.toNat : Nat) : Int) = v := Int.toNat_of_nonneg (by omega)
    have lp : ∀ (c : Nat) (a : Nat) (s : Int) (m : Mm), (a + c = (4 - μ.1 17 (6 + 2 * v.toNat)).toNat) → (s = fgO (fun a b => pkB μ v.toNat a b) (4 - μ.1 17 (6 + 2 * v.toNat + 1)).toNat a) → Scr μ m → AW K 22 [some (vR 0), some (vI v), some (vI s), some (vI ((a : Nat) : Int)), none, none] [] m := by
      intro c
      induction c with
      | zero =>
        intro a s m ha hs hS
        have hsr := fgO_rng (P := (fun a b => pkB μ v.toNat a b)) (B := (4 - μ.1 17 (6 + 2 * v.toNat + 1)).toNat) (by omega) a (by omega)
        rw [← hs] at hsr
        refine aw_iload_n hO dX12_feigning_22 rfl rfl ?_
        refine aw_iconst hO dX12_feigning_23 rfl ?_
        refine aw_aload_n hO dX12_feigning_24 rfl rfl ?_
        refine gM_now hO dX12_feigning_25 rfl ?_
        refine aw_bipush hO dX12_feigning_28 rfl (by decide) (by decide) ?_
        refine aw_iconst hO dX12_feigning_30 rfl ?_
        refine aw_iload_n hO dX12_feigning_31 rfl rfl ?_
        refine aw_imul hO dX12_feigning_32 rfl ?_
        refine aw_iadd hO dX12_feigning_33 rfl ?_
        refine aw_ialdn (N := 218) (i := (6 + 2 * v.toNat)) hO dX12_feigning_34 rfl (by decide) rfl (by decide) (by omega) (by omega) ?_
        refine aw_cg (hS.1 17 (6 + 2 * v.toNat) (by unfold scr; omega)) ?_
        refine aw_isub hO dX12_feigning_35 rfl ?_
        refine aw_icmp_gt (tgt := 130) hO dX12_feigning_36 rfl rfl (inRn (by omega)) ⟨by omega, by omega⟩ (fun c36 => ?_) (fun c36 => ?_)
        · refine aw_iload_n hO dX12_feigning_130 rfl rfl ?_
          refine aw_iret hO dX12_feigning_131 ?_
          exact ⟨_, rfl, by rw [if_pos hw, hs]; unfold fgM; rw [show (4 - μ.1 17 (6 + 2 * v.toNat)).toNat = a by omega], hS⟩
        · exact absurd c36 (by omega)
      | succ c ih =>
        intro a s m ha hs hS
        have hsr := fgO_rng (P := (fun a b => pkB μ v.toNat a b)) (B := (4 - μ.1 17 (6 + 2 * v.toNat + 1)).toNat) (by omega) a (by omega)
        rw [← hs] at hsr
        have il : ∀ (c2 : Nat) (b : Nat) (s3 : Int) (m3 : Mm), (b + c2 = (4 - μ.1 17 (6 + 2 * v.toNat + 1)).toNat) → (s3 = fgI (fun a b => pkB μ v.toNat a b) a s b) → (Scr μ m3) → AW K 42 [some (vR 0), some (vI v), some (vI s3), some (vI ((a : Nat) : Int)), some (vI ((b : Nat) : Int)), none] [] m3 := by
          intro c2
          induction c2 with
          | zero =>
            intro b s3 m3 hb hs3 hS3
            refine aw_iload hO dX12_feigning_42 rfl rfl ?_
            refine aw_iconst hO dX12_feigning_44 rfl ?_
            refine aw_aload_n hO dX12_feigning_45 rfl rfl ?_
            refine gM_now hO dX12_feigning_46 rfl ?_
            refine aw_bipush hO dX12_feigning_49 rfl (by decide) (by decide) ?_
            refine aw_iconst hO dX12_feigning_51 rfl ?_
            refine aw_iload_n hO dX12_feigning_52 rfl rfl ?_
            refine aw_imul hO dX12_feigning_53 rfl ?_
            refine aw_iadd hO dX12_feigning_54 rfl ?_
            refine aw_iconst hO dX12_feigning_55 rfl ?_
            refine aw_iadd hO dX12_feigning_56 rfl ?_
            refine aw_ialdn (N := 218) (i := (6 + 2 * v.toNat + 1)) hO dX12_feigning_57 rfl (by decide) rfl (by decide) (by omega) (by omega) ?_
            refine aw_cg (hS3.1 17 (6 + 2 * v.toNat + 1) (by unfold scr; omega)) ?_
            refine aw_isub hO dX12_feigning_58 rfl ?_
            refine aw_icmp_gt (tgt := 124) hO dX12_feigning_59 rfl rfl (inRn (by omega)) ⟨by omega, by omega⟩ (fun c59 => ?_) (fun c59 => ?_)
            · refine aw_iinc (ls' := [some (vR 0), some (vI v), some (vI s3), some (vI (((a : Nat) : Int) + 1)), some (vI ((b : Nat) : Int)), none]) hO dX12_feigning_124 rfl rfl rfl rfl ?_
              refine aw_lsq (ls' := [some (vR 0), some (vI v), some (vI s3), some (vI (((a + 1) : Nat) : Int)), some (vI ((b : Nat) : Int)), none]) rfl ?_
              refine aw_goto (tgt := 22) hO dX12_feigning_127 rfl ?_
              refine aw_fg (ls' := [some (vR 0), some (vI v), some (vI s3), some (vI (((a + 1) : Nat) : Int)), none, none]) ⟨rfl, rfl, rfl, rfl, trivial⟩ ?_
              exact ih (a + 1) s3 m3 (by omega) (by rw [hs3, show b = (4 - μ.1 17 (6 + 2 * v.toNat + 1)).toNat by omega, hs]; rfl) hS3
            · exact absurd c59 (by omega)
          | succ c2 ih2 =>
            intro b s3 m3 hb hs3 hS3
            refine aw_iload hO dX12_feigning_42 rfl rfl ?_
            refine aw_iconst hO dX12_feigning_44 rfl ?_
            refine aw_aload_n hO dX12_feigning_45 rfl rfl ?_
            refine gM_now hO dX12_feigning_46 rfl ?_
            refine aw_bipush hO dX12_feigning_49 rfl (by decide) (by decide) ?_
            refine aw_iconst hO dX12_feigning_51 rfl ?_
            refine aw_iload_n hO dX12_feigning_52 rfl rfl ?_
            refine aw_imul hO dX12_feigning_53 rfl ?_
            refine aw_iadd hO dX12_feigning_54 rfl ?_
            refine aw_iconst hO dX12_feigning_55 rfl ?_
            refine aw_iadd hO dX12_feigning_56 rfl ?_
            refine aw_ialdn (N := 218) (i := (6 + 2 * v.toNat + 1)) hO dX12_feigning_57 rfl (by decide) rfl (by decide) (by omega) (by omega) ?_
            refine aw_cg (hS3.1 17 (6 + 2 * v.toNat + 1) (by unfold scr; omega)) ?_
            refine aw_isub hO dX12_feigning_58 rfl ?_
            refine aw_icmp_gt (tgt := 124) hO dX12_feigning_59 rfl rfl (inRn (by omega)) ⟨by omega, by omega⟩ (fun c59 => ?_) (fun c59 => ?_)
            · exact absurd c59 (by omega)
            · have hsr := fgI_rng (P := (fun a b => pkB μ v.toNat a b)) (a := a) (b0 := s) (by omega) (by rw [hs]; exact fgO_rng (by omega) a (by omega)) b (by omega)
              rw [← hs3] at hsr
              refine aw_iload_n hO dX12_feigning_62 rfl rfl ?_
              refine aw_iconst hO dX12_feigning_63 rfl ?_
              refine aw_icmp_eq (tgt := 83) hO dX12_feigning_64 rfl rfl ⟨by omega, by omega⟩ (inRlit _) (fun c64 => ?_) (fun c64 => ?_)
              · refine aw_iconst hO dX12_feigning_83 rfl ?_
                refine aw_goto (tgt := 88) hO dX12_feigning_84 rfl ?_
                refine aw_istore (ls' := [some (vR 0), some (vI v), some (vI s3), some (vI ((a : Nat) : Int)), some (vI ((b : Nat) : Int)), some (vI 1)]) hO dX12_feigning_88 rfl (Nat.le_of_ble_eq_true rfl) rfl rfl ?_
                refine aw_iload hO dX12_feigning_90 rfl rfl ?_
                refine aw_if_eq (tgt := 116) hO dX12_feigning_92 rfl rfl (inRlit _) (fun c92 => ?_) (fun c92 => ?_)
                · exact absurd c92 (by omega)
                · refine aw_aload_n hO dX12_feigning_95 rfl rfl ?_
                  refine aw_iload_n hO dX12_feigning_96 rfl rfl ?_
                  refine aw_iload_n hO dX12_feigning_97 rfl rfl ?_
                  refine aw_iload hO dX12_feigning_98 rfl rfl ?_
                  refine aw_stq (st' := [vI ((b : Nat) : Int), vI ((a : Nat) : Int), vI ((v.toNat : Nat) : Int), vR 0]) (by rw [hvt]) ?_
                  refine aw_callVE (as := [vI ((v.toNat : Nat) : Int), vI ((a : Nat) : Int), vI ((b : Nat) : Int)]) (st := []) hO dX12_feigning_100 rfl (lw_t7 196 rfl rfl) kX12_isPickedBy (T := TX12) rfl (by decide) rfl (ctM_isPickedBy μ m3 h hS3 (p := v.toNat) (a := a) (b := b) (by omega) (by omega) (by omega)) (by decide) rfl rfl rfl (Nat.le_of_ble_eq_true rfl) (fun v1 μ2 hq3 => ?_)
                  obtain ⟨e_v1, s_μ2⟩ := hq3
                  refine aw_cg e_v1 ?_
                  refine aw_ifz_eq (tgt := 116) hO dX12_feigning_103 rfl rfl (fun c103 => ?_) (fun c103 => ?_)
                  · refine aw_iload_n hO dX12_feigning_116 rfl rfl ?_
                    refine aw_istore_n (ls' := [some (vR 0), some (vI v), some (vI s3), some (vI ((a : Nat) : Int)), some (vI ((b : Nat) : Int)), some (vI 1)]) hO dX12_feigning_117 rfl (Nat.le_of_ble_eq_true rfl) rfl rfl ?_
                    refine aw_iinc (ls' := [some (vR 0), some (vI v), some (vI s3), some (vI ((a : Nat) : Int)), some (vI (((b : Nat) : Int) + 1)), some (vI 1)]) hO dX12_feigning_118 rfl rfl rfl rfl ?_
                    refine aw_lsq (ls' := [some (vR 0), some (vI v), some (vI s3), some (vI ((a : Nat) : Int)), some (vI (((b + 1) : Nat) : Int)), some (vI 1)]) rfl ?_
                    refine aw_goto (tgt := 42) hO dX12_feigning_121 rfl ?_
                    refine aw_fg (ls' := [some (vR 0), some (vI v), some (vI s3), some (vI ((a : Nat) : Int)), some (vI (((b + 1) : Nat) : Int)), none]) ⟨rfl, rfl, rfl, rfl, rfl, trivial⟩ ?_
                    exact ih2 (b + 1) s3 μ2 (by omega) (by rw [fgI, if_neg (fun q => c103 q.2)]; exact hs3) s_μ2
                  · refine aw_bipush hO dX12_feigning_106 rfl (by decide) (by decide) ?_
                    refine aw_iload_n hO dX12_feigning_108 rfl rfl ?_
                    refine aw_imul hO dX12_feigning_109 rfl ?_
                    refine aw_iload hO dX12_feigning_110 rfl rfl ?_
                    refine aw_iadd hO dX12_feigning_112 rfl ?_
                    refine aw_goto (tgt := 117) hO dX12_feigning_113 rfl ?_
                    refine aw_istore_n (ls' := [some (vR 0), some (vI v), some (vI ((10 * ((a : Nat) : Int)) + ((b : Nat) : Int))), some (vI ((a : Nat) : Int)), some (vI ((b : Nat) : Int)), some (vI 1)]) hO dX12_feigning_117 rfl (Nat.le_of_ble_eq_true rfl) rfl rfl ?_
                    refine aw_iinc (ls' := [some (vR 0), some (vI v), some (vI ((10 * ((a : Nat) : Int)) + ((b : Nat) : Int))), some (vI ((a : Nat) : Int)), some (vI (((b : Nat) : Int) + 1)), some (vI 1)]) hO dX12_feigning_118 rfl rfl rfl rfl ?_
                    refine aw_lsq (ls' := [some (vR 0), some (vI v), some (vI ((10 * ((a : Nat) : Int)) + ((b : Nat) : Int))), some (vI ((a : Nat) : Int)), some (vI (((b + 1) : Nat) : Int)), some (vI 1)]) rfl ?_
                    refine aw_goto (tgt := 42) hO dX12_feigning_121 rfl ?_
                    refine aw_fg (ls' := [some (vR 0), some (vI v), some (vI ((10 * ((a : Nat) : Int)) + ((b : Nat) : Int))), some (vI ((a : Nat) : Int)), some (vI (((b + 1) : Nat) : Int)), none]) ⟨rfl, rfl, rfl, rfl, rfl, trivial⟩ ?_
                    exact ih2 (b + 1) _ μ2 (by omega) (by rw [fgI, if_pos ⟨Or.inl (by rw [← hs3]; exact c64), c103⟩]) s_μ2
              · refine aw_iload_n hO dX12_feigning_67 rfl rfl ?_
                refine aw_iload hO dX12_feigning_68 rfl rfl ?_
                refine aw_iadd hO dX12_feigning_70 rfl ?_
                refine aw_iload_n hO dX12_feigning_71 rfl rfl ?_
                refine aw_bipush hO dX12_feigning_72 rfl (by decide) (by decide) ?_
                refine aw_idiv hO dX12_feigning_74 rfl (by omega) (by omega) (by omega) (by omega) ?_
                refine aw_iload_n hO dX12_feigning_75 rfl rfl ?_
                refine aw_bipush hO dX12_feigning_76 rfl (by decide) (by decide) ?_
                refine aw_irem hO dX12_feigning_78 rfl (by omega) (by omega) (by omega) (by omega) ?_
                refine aw_iadd hO dX12_feigning_79 rfl ?_
                refine aw_icmp_ge (tgt := 87) hO dX12_feigning_80 rfl rfl ⟨by omega, by omega⟩ ⟨by omega, by omega⟩ (fun c80 => ?_) (fun c80 => ?_)
                · refine aw_iconst hO dX12_feigning_87 rfl ?_
                  refine aw_istore (ls' := [some (vR 0), some (vI v), some (vI s3), some (vI ((a : Nat) : Int)), some (vI ((b : Nat) : Int)), some (vI 0)]) hO dX12_feigning_88 rfl (Nat.le_of_ble_eq_true rfl) rfl rfl ?_
                  refine aw_iload hO dX12_feigning_90 rfl rfl ?_
                  refine aw_if_eq (tgt := 116) hO dX12_feigning_92 rfl rfl (inRlit _) (fun c92 => ?_) (fun c92 => ?_)
                  · refine aw_iload_n hO dX12_feigning_116 rfl rfl ?_
                    refine aw_istore_n (ls' := [some (vR 0), some (vI v), some (vI s3), some (vI ((a : Nat) : Int)), some (vI ((b : Nat) : Int)), some (vI 0)]) hO dX12_feigning_117 rfl (Nat.le_of_ble_eq_true rfl) rfl rfl ?_
                    refine aw_iinc (ls' := [some (vR 0), some (vI v), some (vI s3), some (vI ((a : Nat) : Int)), some (vI (((b : Nat) : Int) + 1)), some (vI 0)]) hO dX12_feigning_118 rfl rfl rfl rfl ?_
                    refine aw_lsq (ls' := [some (vR 0), some (vI v), some (vI s3), some (vI ((a : Nat) : Int)), some (vI (((b + 1) : Nat) : Int)), some (vI 0)]) rfl ?_
                    refine aw_goto (tgt := 42) hO dX12_feigning_121 rfl ?_
                    refine aw_fg (ls' := [some (vR 0), some (vI v), some (vI s3), some (vI ((a : Nat) : Int)), some (vI (((b + 1) : Nat) : Int)), none]) ⟨rfl, rfl, rfl, rfl, rfl, trivial⟩ ?_
                    exact ih2 (b + 1) s3 m3 (by omega) (by rw [fgI, if_neg (fun q => q.1.elim (fun q => c64 (by rw [hs3]; exact q)) (fun q => by rw [← hs3] at q; omega))]; exact hs3) hS3
                  · exact absurd c92 (by omega)
                · refine aw_iconst hO dX12_feigning_83 rfl ?_
                  refine aw_goto (tgt := 88) hO dX12_feigning_84 rfl ?_
                  refine aw_istore (ls' := [some (vR 0), some (vI v), some (vI s3), some (vI ((a : Nat) : Int)), some (vI ((b : Nat) : Int)), some (vI 1)]) hO dX12_feigning_88 rfl (Nat.le_of_ble_eq_true rfl) rfl rfl ?_
                  refine aw_iload hO dX12_feigning_90 rfl rfl ?_
                  refine aw_if_eq (tgt := 116) hO dX12_feigning_92 rfl rfl (inRlit _) (fun c92 => ?_) (fun c92 => ?_)
                  · exact absurd c92 (by omega)
                  · refine aw_aload_n hO dX12_feigning_95 rfl rfl ?_
                    refine aw_iload_n hO dX12_feigning_96 rfl rfl ?_
                    refine aw_iload_n hO dX12_feigning_97 rfl rfl ?_
                    refine aw_iload hO dX12_feigning_98 rfl rfl ?_
                    refine aw_stq (st' := [vI ((b : Nat) : Int), vI ((a : Nat) : Int), vI ((v.toNat : Nat) : Int), vR 0]) (by rw [hvt]) ?_
                    refine aw_callVE (as := [vI ((v.toNat : Nat) : Int), vI ((a : Nat) : Int), vI ((b : Nat) : Int)]) (st := []) hO dX12_feigning_100 rfl (lw_t7 196 rfl rfl) kX12_isPickedBy (T := TX12) rfl (by decide) rfl (ctM_isPickedBy μ m3 h hS3 (p := v.toNat) (a := a) (b := b) (by omega) (by omega) (by omega)) (by decide) rfl rfl rfl (Nat.le_of_ble_eq_true rfl) (fun v4 μ5 hq6 => ?_)
                    obtain ⟨e_v4, s_μ5⟩ := hq6
                    refine aw_cg e_v4 ?_
                    refine aw_ifz_eq (tgt := 116) hO dX12_feigning_103 rfl rfl (fun c103 => ?_) (fun c103 => ?_)
                    · refine aw_iload_n hO dX12_feigning_116 rfl rfl ?_
                      refine aw_istore_n (ls' := [some (vR 0), some (vI v), some (vI s3), some (vI ((a : Nat) : Int)), some (vI ((b : Nat) : Int)), some (vI 1)]) hO dX12_feigning_117 rfl (Nat.le_of_ble_eq_true rfl) rfl rfl ?_
                      refine aw_iinc (ls' := [some (vR 0), some (vI v), some (vI s3), some (vI ((a : Nat) : Int)), some (vI (((b : Nat) : Int) + 1)), some (vI 1)]) hO dX12_feigning_118 rfl rfl rfl rfl ?_
                      refine aw_lsq (ls' := [some (vR 0), some (vI v), some (vI s3), some (vI ((a : Nat) : Int)), some (vI (((b + 1) : Nat) : Int)), some (vI 1)]) rfl ?_
                      refine aw_goto (tgt := 42) hO dX12_feigning_121 rfl ?_
                      refine aw_fg (ls' := [some (vR 0), some (vI v), some (vI s3), some (vI ((a : Nat) : Int)), some (vI (((b + 1) : Nat) : Int)), none]) ⟨rfl, rfl, rfl, rfl, rfl, trivial⟩ ?_
                      exact ih2 (b + 1) s3 μ5 (by omega) (by rw [fgI, if_neg (fun q => c103 q.2)]; exact hs3) s_μ5
                    · refine aw_bipush hO dX12_feigning_106 rfl (by decide) (by decide) ?_
                      refine aw_iload_n hO dX12_feigning_108 rfl rfl ?_
                      refine aw_imul hO dX12_feigning_109 rfl ?_
                      refine aw_iload hO dX12_feigning_110 rfl rfl ?_
                      refine aw_iadd hO dX12_feigning_112 rfl ?_
                      refine aw_goto (tgt := 117) hO dX12_feigning_113 rfl ?_
                      refine aw_istore_n (ls' := [some (vR 0), some (vI v), some (vI ((10 * ((a : Nat) : Int)) + ((b : Nat) : Int))), some (vI ((a : Nat) : Int)), some (vI ((b : Nat) : Int)), some (vI 1)]) hO dX12_feigning_117 rfl (Nat.le_of_ble_eq_true rfl) rfl rfl ?_
                      refine aw_iinc (ls' := [some (vR 0), some (vI v), some (vI ((10 * ((a : Nat) : Int)) + ((b : Nat) : Int))), some (vI ((a : Nat) : Int)), some (vI (((b : Nat) : Int) + 1)), some (vI 1)]) hO dX12_feigning_118 rfl rfl rfl rfl ?_
                      refine aw_lsq (ls' := [some (vR 0), some (vI v), some (vI ((10 * ((a : Nat) : Int)) + ((b : Nat) : Int))), some (vI ((a : Nat) : Int)), some (vI (((b + 1) : Nat) : Int)), some (vI 1)]) rfl ?_
                      refine aw_goto (tgt := 42) hO dX12_feigning_121 rfl ?_
                      refine aw_fg (ls' := [some (vR 0), some (vI v), some (vI ((10 * ((a : Nat) : Int)) + ((b : Nat) : Int))), some (vI ((a : Nat) : Int)), some (vI (((b + 1) : Nat) : Int)), none]) ⟨rfl, rfl, rfl, rfl, rfl, trivial⟩ ?_
                      exact ih2 (b + 1) _ μ5 (by omega) (by rw [fgI, if_pos ⟨Or.inr (by rw [← hs3]; exact c80), c103⟩]) s_μ5
        refine aw_iload_n hO dX12_feigning_22 rfl rfl ?_
        refine aw_iconst hO dX12_feigning_23 rfl ?_
        refine aw_aload_n hO dX12_feigning_24 rfl rfl ?_
        refine gM_now hO dX12_feigning_25 rfl ?_
        refine aw_bipush hO dX12_feigning_28 rfl (by decide) (by decide) ?_
        refine aw_iconst hO dX12_feigning_30 rfl ?_
        refine aw_iload_n hO dX12_feigning_31 rfl rfl ?_
        refine aw_imul hO dX12_feigning_32 rfl ?_
        refine aw_iadd hO dX12_feigning_33 rfl ?_
        refine aw_ialdn (N := 218) (i := (6 + 2 * v.toNat)) hO dX12_feigning_34 rfl (by decide) rfl (by decide) (by omega) (by omega) ?_
        refine aw_cg (hS.1 17 (6 + 2 * v.toNat) (by unfold scr; omega)) ?_
        refine aw_isub hO dX12_feigning_35 rfl ?_
        refine aw_icmp_gt (tgt := 130) hO dX12_feigning_36 rfl rfl (inRn (by omega)) ⟨by omega, by omega⟩ (fun c36 => ?_) (fun c36 => ?_)
        · exact absurd c36 (by omega)
        · refine aw_iconst hO dX12_feigning_39 rfl ?_
          refine aw_istore (ls' := [some (vR 0), some (vI v), some (vI s), some (vI ((a : Nat) : Int)), some (vI 0), none]) hO dX12_feigning_40 rfl (Nat.le_of_ble_eq_true rfl) rfl rfl ?_
          refine aw_fg (ls' := [some (vR 0), some (vI v), some (vI s), some (vI ((a : Nat) : Int)), some (vI ((0 : Nat) : Int)), none]) ⟨rfl, rfl, rfl, rfl, rfl, trivial⟩ ?_
          exact il (4 - μ.1 17 (6 + 2 * v.toNat + 1)).toNat 0 s m (by omega) rfl hS
    exact lp (4 - μ.1 17 (6 + 2 * v.toNat)).toNat 0 (-1) μ (by omega) rfl Scr.rf
  refine aw_aload_n hO dX12_feigning_0 rfl rfl ?_
  refine aw_iload_n hO dX12_feigning_1 rfl rfl ?_
  refine aw_callVI (as := [vI v]) (st := []) hO dX12_feigning_2 rfl (lw_t7 21 rfl rfl) kX12_isPerson (T := TX12) rfl (by decide) rfl (ctM_isPerson μ h.1 (v := v) hv) (by decide) rfl rfl rfl (Nat.le_of_ble_eq_true rfl) ?_
  refine aw_ifz_eq (tgt := 16) hO dX12_feigning_5 rfl rfl (fun c5 => ?_) (fun c5 => ?_)
  · refine aw_iconst hO dX12_feigning_16 rfl ?_
    refine aw_iret hO dX12_feigning_17 ?_
    exact ⟨_, rfl, by rw [if_neg (fun q => c5 q.1)], Scr.rf⟩
  · refine aw_aload_n hO dX12_feigning_8 rfl rfl ?_
    refine aw_iload_n hO dX12_feigning_9 rfl rfl ?_
    refine aw_stq (st' := [vI ((v.toNat : Nat) : Int), vR 0]) (by rw [Int.toNat_of_nonneg (by omega)]) ?_
    refine aw_callVI (as := [vI ((v.toNat : Nat) : Int)]) (st := []) hO dX12_feigning_10 rfl (lw_t7 29 rfl rfl) kX12_isAway (T := TX12) rfl (by decide) rfl (ctM_isAway μ v.toNat) (by decide) rfl rfl rfl (Nat.le_of_ble_eq_true rfl) ?_
    refine aw_ifz_eq (tgt := 18) hO dX12_feigning_13 rfl rfl (fun c13 => ?_) (fun c13 => ?_)
    · refine aw_iconst hO dX12_feigning_18 rfl ?_
      refine aw_istore_n (ls' := [some (vR 0), some (vI v), some (vI (-1)), none, none, none]) hO dX12_feigning_19 rfl (Nat.le_of_ble_eq_true rfl) rfl rfl ?_
      refine aw_iconst hO dX12_feigning_20 rfl ?_
      refine aw_istore_n (ls' := [some (vR 0), some (vI v), some (vI (-1)), some (vI 0), none, none]) hO dX12_feigning_21 rfl (Nat.le_of_ble_eq_true rfl) rfl rfl ?_
      refine aw_lsq (ls' := [some (vR 0), some (vI v), some (vI (-1)), some (vI ((0 : Nat) : Int)), none, none]) rfl ?_
      exact body ⟨c5, by revert c13; cases hasB (μ.1 17 31) v.toNat <;> simp⟩
    · refine aw_iconst hO dX12_feigning_16 rfl ?_
      refine aw_iret hO dX12_feigning_17 ?_
      exact ⟨_, rfl, by rw [if_neg (fun q => by rw [c13] at q; cases q.2)], Scr.rf⟩
