
/-! ## what picks and years rest on -/
def EqW (a b : Mm) : Prop := (b.1 0 25 = a.1 0 25 ∧ b.1 0 26 = a.1 0 26 ∧ b.1 0 29 = a.1 0 29) ∧ b.1 2 = a.1 2 ∧ b.1 3 = a.1 3 ∧ b.1 5 = a.1 5 ∧ b.1 6 = a.1 6 ∧ b.1 7 = a.1 7 ∧ b.1 8 = a.1 8 ∧ b.1 14 = a.1 14 ∧ b.1 15 = a.1 15 ∧ b.1 16 = a.1 16 ∧ b.1 17 = a.1 17
theorem EqW.c2 {a b : Mm} (h : EqW a b) : b.1 2 = a.1 2 := h.2.1
theorem EqW.c3 {a b : Mm} (h : EqW a b) : b.1 3 = a.1 3 := h.2.2.1
theorem EqW.c5 {a b : Mm} (h : EqW a b) : b.1 5 = a.1 5 := h.2.2.2.1
theorem EqW.c6 {a b : Mm} (h : EqW a b) : b.1 6 = a.1 6 := h.2.2.2.2.1
theorem EqW.c7 {a b : Mm} (h : EqW a b) : b.1 7 = a.1 7 := h.2.2.2.2.2.1
theorem EqW.c8 {a b : Mm} (h : EqW a b) : b.1 8 = a.1 8 := h.2.2.2.2.2.2.1
theorem EqW.c14 {a b : Mm} (h : EqW a b) : b.1 14 = a.1 14 := h.2.2.2.2.2.2.2.1
theorem EqW.c15 {a b : Mm} (h : EqW a b) : b.1 15 = a.1 15 := h.2.2.2.2.2.2.2.2.1
theorem EqW.c16 {a b : Mm} (h : EqW a b) : b.1 16 = a.1 16 := h.2.2.2.2.2.2.2.2.2.1
theorem EqW.c17 {a b : Mm} (h : EqW a b) : b.1 17 = a.1 17 := h.2.2.2.2.2.2.2.2.2.2
theorem seemsM_W {μ m : Mm} (h : EqW μ m) (p k : Nat) : seemsM m p k = seemsM μ p k := by unfold seemsM; rw [h.c15, h.c17]
theorem ltM_W {μ m : Mm} (h : EqW μ m) (p : Nat) : ltM m p = ltM μ p := by
  funext i
  unfold ltM
  split <;> simp only [seemsM_W h, h.c15, h.c17]
theorem worthM_W {μ m : Mm} (h : EqW μ m) (n : Nat) (lt : Nat → Int) : ∀ r j, worthM m n lt r j = worthM μ n lt r j
  | 0, _ => rfl
  | r + 1, j => by rw [worthM, worthM, worthM_W h n lt r (j + 1), h.c2, h.c3, h.c6, h.c7, h.c8]
theorem appealM_W {μ m : Mm} (h : EqW μ m) (p : Nat) : appealM m p = appealM μ p := by
  unfold appealM rawM
  rw [seemsM_W h, seemsM_W h, ltM_W h, worthM_W h, h.1.2.2, h.c14, h.c15, h.c5]
theorem mayM_W {μ m : Mm} (h : EqW μ m) (p : Nat) : mayM m p = mayM μ p := by unfold mayM; rw [h.c17]
theorem himM_W {μ m : Mm} (h : EqW μ m) (n : Nat) : himM m n = himM μ n := best_congr n (fun p _ => mayM_W h p) (fun p _ => appealM_W h p)
theorem restM_W {μ m : Mm} (h : EqW μ m) (n : Nat) : restM m n = restM μ n := by unfold restM; rw [h.c17, h.c15]
theorem pickM_W {μ m : Mm} (h : EqW μ m) (n : Nat) : pickM m n = pickM μ n := by unfold pickM; rw [himM_W h, restM_W h]
theorem metM_W {μ m : Mm} (h : EqW μ m) (p : Int) (t : Nat) : metM m p t = metM μ p t := by unfold metM; rw [h.c15, h.c16, h.c17]
theorem chM_W {μ m : Mm} (h : EqW μ m) : chM m = chM μ := by unfold chM; rw [h.1.1, pickM_W h]
theorem brM_W {μ m : Mm} (h : EqW μ m) : brM m = brM μ := by unfold brM; rw [chM_W h, h.1.1, himM_W h]
theorem tmM_W {μ m : Mm} (h : EqW μ m) : tmM m = tmM μ := by unfold tmM; rw [chM_W h, h.1.2.1, metM_W h]
theorem liveF_W {μ m : Mm} (h : EqW μ m) : liveF m = liveF μ := by unfold liveF; rw [chM_W h, brM_W h, tmM_W h, h.c17, h.c16, h.1.2.1]
theorem passF_W {μ m : Mm} (h : EqW μ m) : passF m = passF μ := by unfold passF; rw [liveF_W h, chM_W h, brM_W h, tmM_W h]
theorem MG_W {μ m : Mm} (hG : MG μ) (h : EqW μ m) : MG m := by
  unfold MG MB HoldOK LawV at *
  rw [h.1.1, h.1.2.1, h.1.2.2, h.c14, h.c15, h.c16, h.c17, h.c2, h.c3, h.c5, h.c6, h.c7, h.c8]
  exact hG
/-- another state of the same town -/
def wN (μ : Mm) (f : Nat → Int) : Mm := mrow μ 17 f
theorem MG_N {μ : Mm} (h : MG μ) {f : Nat → Int} (hf : NowOK f) : MG (wN μ f) := by
  obtain ⟨⟨a1, a2, a3, a4, a5, a6⟩, b⟩ := h
  refine ⟨⟨?_, ?_, ?_, ?_, ?_, ?_⟩, ?_⟩
  · exact a1
  · exact a2
  · exact a3
  · exact a4
  · exact a5
  · exact hf
  · exact b
/-- years one behind another: the state, what is kept, how many -/
def yrs (μ : Mm) : Nat → (Nat → Int) × (Nat → Int) × Int
  | 0 => (μ.1 17, μ.1 19, μ.1 0 35)
  | k + 1 => (passF (wN μ (yrs μ k).1), kepF (yrs μ k).2.1 (yrs μ k).1 (yrs μ k).2.2, kepA (yrs μ k).2.2 + 1)
theorem kepA_rng {a : Int} (h : 0 ≤ a ∧ a ≤ 40) : 0 ≤ kepA a ∧ kepA a ≤ 39 := by unfold kepA; split <;> omega
theorem pass36 {μ : Mm} (h : MB μ) : passF μ 36 = (crownF (μ.1 17) (chM μ) (brM μ)) 36 + 1 := by
  have hnt := h.nt
  unfold passF
  rw [addLog_lt (by omega)]
  unfold liveF endF
  rw [if_neg (by omega), if_neg (by omega), if_neg (by omega), if_pos rfl, trbF_ne (by omega) _ (by omega)]
theorem pass36' {μ : Mm} (h : MB μ) : passF μ 36 = μ.1 17 36 + 1 := by
  rw [pass36 h, crownF_ne _ (by omega) (by omega) (by omega)]
  have := pickM_rng μ (μ.1 0 25).toNat
  have := h.np
  unfold chM
  omega
theorem yrs_ok {μ : Mm} (h : MG μ) (ha : 0 ≤ μ.1 0 35 ∧ μ.1 0 35 ≤ 40) : ∀ k : Nat, μ.1 17 36 + k ≤ 999 → NowOK (yrs μ k).1 ∧ (yrs μ k).1 36 = μ.1 17 36 + k ∧ (0 ≤ (yrs μ k).2.2 ∧ (yrs μ k).2.2 ≤ 40)
  | 0, _ => ⟨h.1.now, by simp [yrs], ha⟩
  | k + 1, hk => by
    obtain ⟨a, b, c⟩ := yrs_ok h ha k (by omega)
    have hG := MG_N h a
    refine ⟨pass_ok hG.1 (by show (yrs μ k).1 36 ≤ 1099; omega), ?_, ?_⟩
    · show passF (wN μ (yrs μ k).1) 36 = _
      rw [pass36' hG.1]
      show (yrs μ k).1 36 + 1 = _
      omega
    · have := kepA_rng c
      show 0 ≤ kepA (yrs μ k).2.2 + 1 ∧ kepA (yrs μ k).2.2 + 1 ≤ 40
      omega
/-- the memory in the midst of years -/
def OffY (μ m : Mm) : Prop := (∀ k i, k ≠ 9 → k ≠ 10 → k ≠ 17 → k ≠ 19 → ¬ (k = 0 ∧ (i = 31 ∨ i = 32 ∨ i = 33 ∨ i = 35)) → m.1 k i = μ.1 k i)
def InY (μ : Mm) (f kp : Nat → Int) (a : Int) (m : Mm) : Prop := m.1 17 = f ∧ m.1 19 = kp ∧ m.1 0 35 = a ∧ OffY μ m
theorem InY.E {μ m : Mm} {f kp : Nat → Int} {a : Int} (h : InY μ f kp a m) : EqW (wN μ f) m := by
  obtain ⟨h1, h2, h3, h4⟩ := h
  refine ⟨⟨h4 0 25 (by decide) (by decide) (by decide) (by decide) (by decide), h4 0 26 (by decide) (by decide) (by decide) (by decide) (by decide), h4 0 29 (by decide) (by decide) (by decide) (by decide) (by decide)⟩, ?_, ?_, ?_, ?_, ?_, ?_, ?_, ?_, ?_, h1⟩
  all_goals (funext i; exact h4 _ i (by decide) (by decide) (by decide) (by decide) (by omega))
theorem InY.kep {μ m : Mm} {f kp : Nat → Int} {a : Int} (h : InY μ f kp a m) : InY μ f (kepF kp f a) (kepA a + 1) (kepM m) := by
  obtain ⟨h1, h2, h3, h4⟩ := h
  refine ⟨?_, ?_, ?_, fun k i e1 e2 e3 e4 e5 => ?_⟩
  · rw [kepM_fn (by decide) (by decide)]; exact h1
  · unfold kepM
    rw [h1, h2, h3, mst_row, mrow_nk (by decide), mrow_at]
  · unfold kepM
    rw [mst_eq, h3]
  · rw [kepM_nk e4 (by omega)]
    exact h4 k i e1 e2 e3 e4 e5
theorem InY.pass {μ m m2 : Mm} {f kp : Nat → Int} {a : Int} (h : InY μ f kp a m) (hp : m2.1 17 = passF m ∧ OffL m m2) : InY μ (passF (wN μ f)) kp a m2 := by
  have hE := h.E
  obtain ⟨h1, h2, h3, h4⟩ := h
  obtain ⟨p1, p2, p3⟩ := hp
  refine ⟨by rw [p1, passF_W hE], ?_, ?_, fun k i e1 e2 e3 e4 e5 => ?_⟩
  · funext i; rw [p2 19 i (by decide) (by decide) (by decide) (by omega)]; exact congrFun h2 i
  · rw [p2 0 35 (by decide) (by decide) (by decide) (by decide)]; exact h3
  · rw [p2 k i e1 e2 e3 (by omega)]; exact h4 k i e1 e2 e3 e4 e5
def martW (μ : Mm) (v : Int) : Int := if μ.1 0 25 = 0 then 0 else if ¬ (1 ≤ v ∧ v ≤ 60) then 1 else if ¬ ((1 ≤ v ∧ v ≤ 60) ∧ μ.1 17 36 + v ≤ 999) then 4 else -1
theorem dX12_martinmas_0 : decode cX12_martinmas 0 = .ok (.aload_n 0, 1) := by decide +kernel
theorem dX12_martinmas_1 : decode cX12_martinmas 1 = .ok (.aload_n 0, 1) := by decide +kernel
theorem dX12_martinmas_2 : decode cX12_martinmas 2 = .ok (.getfield 242, 3) := by decide +kernel
theorem dX12_martinmas_5 : decode cX12_martinmas 5 = .ok (.ifCond .ne 7, 3) := by decide +kernel
theorem dX12_martinmas_8 : decode cX12_martinmas 8 = .ok (.iconst 0, 1) := by decide +kernel
theorem dX12_martinmas_9 : decode cX12_martinmas 9 = .ok (.goto 30, 3) := by decide +kernel
theorem dX12_martinmas_12 : decode cX12_martinmas 12 = .ok (.iload_n 1, 1) := by decide +kernel
theorem dX12_martinmas_13 : decode cX12_martinmas 13 = .ok (.iconst 1, 1) := by decide +kernel
theorem dX12_martinmas_14 : decode cX12_martinmas 14 = .ok (.bipush 60, 2) := by decide +kernel
theorem dX12_martinmas_16 : decode cX12_martinmas 16 = .ok (.invokestatic 205, 3) := by decide +kernel
theorem dX12_martinmas_19 : decode cX12_martinmas 19 = .ok (.ifCond .ne 7, 3) := by decide +kernel
theorem dX12_martinmas_22 : decode cX12_martinmas 22 = .ok (.iconst 1, 1) := by decide +kernel
theorem dX12_martinmas_23 : decode cX12_martinmas 23 = .ok (.goto 16, 3) := by decide +kernel
theorem dX12_martinmas_26 : decode cX12_martinmas 26 = .ok (.aload_n 0, 1) := by decide +kernel
theorem dX12_martinmas_27 : decode cX12_martinmas 27 = .ok (.iload_n 1, 1) := by decide +kernel
theorem dX12_martinmas_28 : decode cX12_martinmas 28 = .ok (.invokevirtual 337, 3) := by decide +kernel
theorem dX12_martinmas_31 : decode cX12_martinmas 31 = .ok (.ifCond .ne 7, 3) := by decide +kernel
theorem dX12_martinmas_34 : decode cX12_martinmas 34 = .ok (.iconst 4, 1) := by decide +kernel
theorem dX12_martinmas_35 : decode cX12_martinmas 35 = .ok (.goto 4, 3) := by decide +kernel
theorem dX12_martinmas_38 : decode cX12_martinmas 38 = .ok (.iconst (-1), 1) := by decide +kernel
theorem dX12_martinmas_39 : decode cX12_martinmas 39 = .ok (.invokevirtual 325, 3) := by decide +kernel
theorem dX12_martinmas_42 : decode cX12_martinmas 42 = .ok (.ifCond .eq 5, 3) := by decide +kernel
theorem dX12_martinmas_45 : decode cX12_martinmas 45 = .ok (.iconst (-1), 1) := by decide +kernel
theorem dX12_martinmas_46 : decode cX12_martinmas 46 = .ok (.ireturn, 1) := by decide +kernel
theorem dX12_martinmas_47 : decode cX12_martinmas 47 = .ok (.iconst 0, 1) := by decide +kernel
theorem dX12_martinmas_48 : decode cX12_martinmas 48 = .ok (.istore_n 2, 1) := by decide +kernel
theorem dX12_martinmas_49 : decode cX12_martinmas 49 = .ok (.iload_n 2, 1) := by decide +kernel
theorem dX12_martinmas_50 : decode cX12_martinmas 50 = .ok (.iload_n 1, 1) := by decide +kernel
theorem dX12_martinmas_51 : decode cX12_martinmas 51 = .ok (.if_icmp .ge 17, 3) := by decide +kernel
theorem dX12_martinmas_54 : decode cX12_martinmas 54 = .ok (.aload_n 0, 1) := by decide +kernel
theorem dX12_martinmas_55 : decode cX12_martinmas 55 = .ok (.invokevirtual 328, 3) := by decide +kernel
theorem dX12_martinmas_58 : decode cX12_martinmas 58 = .ok (.aload_n 0, 1) := by decide +kernel
theorem dX12_martinmas_59 : decode cX12_martinmas 59 = .ok (.invokevirtual 340, 3) := by decide +kernel
theorem dX12_martinmas_62 : decode cX12_martinmas 62 = .ok (.iinc 2 1, 3) := by decide +kernel
theorem dX12_martinmas_65 : decode cX12_martinmas 65 = .ok (.goto (-16), 3) := by decide +kernel
theorem dX12_martinmas_68 : decode cX12_martinmas 68 = .ok (.aload_n 0, 1) := by decide +kernel
theorem dX12_martinmas_69 : decode cX12_martinmas 69 = .ok (.getfield 58, 3) := by decide +kernel
theorem dX12_martinmas_72 : decode cX12_martinmas 72 = .ok (.bipush 36, 2) := by decide +kernel
theorem dX12_martinmas_74 : decode cX12_martinmas 74 = .ok (.iaload, 1) := by decide +kernel
theorem dX12_martinmas_75 : decode cX12_martinmas 75 = .ok (.ireturn, 1) := by decide +kernel
set_option maxHeartbeats 4000000 in
set_option maxRecDepth 100000 in
theorem ctM_martinmas (μ : Mm) (h : MG μ) (ha : 0 ≤ μ.1 0 35) (ha2 : μ.1 0 35 ≤ 40) {v : Int} (hv : InR v) : CtE PM 11 yX12_martinmas cX12_martinmas 3 (some .int) [vR 0, vI v] μ (fun r m => if martW μ v = -1 then r = (yrs μ v.toNat).1 36 ∧ InY μ (yrs μ v.toNat).1 (yrs μ v.toNat).2.1 (yrs μ v.toNat).2.2 m else r = -1 ∧ m = refM μ (martW μ v)) := by
  refine ct_intro [some (vR 0), some (vI v), none] RX12 (by decide) rfl XM rfl (Nat.le_of_ble_eq_true rfl) (fun K hO => ?_)
  have hyk := yrs_ok h ⟨ha, ha2⟩
  have lp : martW μ v = -1 → (1 ≤ v ∧ v ≤ 60) → μ.1 17 36 + v ≤ 999 → ∀ (c k : Nat) (m : Mm), ((k : Int) + c = v) → InY μ (yrs μ k).1 (yrs μ k).2.1 (yrs μ k).2.2 m → AW K 49 [some (vR 0), some (vI v), some (vI ((k : Nat) : Int))] [] m := by
    intro hw hv1 hv2 c
    induction c with
    | zero =>
      intro k m hk hm
      have hy := hyk k (by omega)
      refine aw_iload_n hO dX12_martinmas_49 rfl rfl ?_
      refine aw_iload_n hO dX12_martinmas_50 rfl rfl ?_
      refine aw_icmp_ge (tgt := 68) hO dX12_martinmas_51 rfl rfl (inRn (by omega)) ⟨by omega, by omega⟩ (fun c51 => ?_) (fun c51 => ?_)
      · refine aw_aload_n hO dX12_martinmas_68 rfl rfl ?_
        refine gM_now hO dX12_martinmas_69 rfl ?_
        refine aw_bipush hO dX12_martinmas_72 rfl (by decide) (by decide) ?_
        refine aw_ialdn (N := 218) (i := 36) hO dX12_martinmas_74 rfl (by decide) rfl (by decide) rfl (by decide) ?_
        refine aw_iret hO dX12_martinmas_75 ?_
        exact ⟨_, rfl, by dsimp only; rw [if_pos hw, show v.toNat = k by omega]; exact ⟨congrFun hm.1 36, hm⟩⟩
      · exact absurd c51 (by omega)
    | succ c ih =>
      intro k m hk hm
      have hy := hyk k (by omega)
      refine aw_iload_n hO dX12_martinmas_49 rfl rfl ?_
      refine aw_iload_n hO dX12_martinmas_50 rfl rfl ?_
      refine aw_icmp_ge (tgt := 68) hO dX12_martinmas_51 rfl rfl (inRn (by omega)) ⟨by omega, by omega⟩ (fun c51 => ?_) (fun c51 => ?_)
      · exact absurd c51 (by omega)
      · refine aw_aload_n hO dX12_martinmas_54 rfl rfl ?_
        refine aw_callVV (as := []) (st := []) hO dX12_martinmas_55 rfl (lw_t7 63 rfl rfl) kX12_keep (T := TX12) rfl (by decide) rfl (ctM_keep m (by rw [hm.2.2.1]; exact hy.2.2.1) (by rw [hm.2.2.1]; exact hy.2.2.2)) (by decide) rfl rfl rfl (Nat.le_of_ble_eq_true rfl) (fun μ2 hq3 => ?_)
        have hmk : InY μ (yrs μ k).1 (kepF (yrs μ k).2.1 (yrs μ k).1 (yrs μ k).2.2) (kepA (yrs μ k).2.2 + 1) μ2 := by have q := hm.kep; rw [show kepM m = μ2 from hq3.symm] at q; exact q
        refine aw_aload_n hO dX12_martinmas_58 rfl rfl ?_
        refine aw_callVV (as := []) (st := []) hO dX12_martinmas_59 rfl (lw_t7 96 rfl rfl) kX12_passYear (T := TX12) rfl (by decide) rfl (ctM_passYear μ2 (MG_W (MG_N h hy.1) hmk.E) (by rw [hmk.1]; have := hy.2.1; omega)) (by decide) rfl rfl rfl (Nat.le_of_ble_eq_true rfl) (fun μ5 hq6 => ?_)
        have hp := hq6
        refine aw_iinc (ls' := [some (vR 0), some (vI v), some (vI (((k : Nat) : Int) + 1))]) hO dX12_martinmas_62 rfl rfl rfl rfl ?_
        refine aw_lsq (ls' := [some (vR 0), some (vI v), some (vI (((k + 1) : Nat) : Int))]) rfl ?_
        refine aw_goto (tgt := 49) hO dX12_martinmas_65 rfl ?_
        refine aw_lsq (ls' := [some (vR 0), some (vI v), some (vI (((k + 1) : Nat) : Int))]) rfl ?_
        exact ih (k + 1) μ5 (by omega) (InY.pass hmk hp)
  have hnp := h.1.np
  have hr := h.1.now.rest
  have hwr : -1 ≤ (martW μ v) ∧ (martW μ v) ≤ 4 := by unfold martW; (repeat' split) <;> omega
  have j : AW K 39 [some (vR 0), some (vI v), none] [vI (martW μ v), vR 0] μ := by
    refine aw_callVE (as := [vI (martW μ v)]) (st := []) hO dX12_martinmas_39 rfl (lw_t7 59 rfl rfl) kX12_isRefused (T := TX12) rfl (by decide) rfl (ctM_isRefused μ (v := (martW μ v)) (by omega) (by omega)) (by decide) rfl rfl rfl (Nat.le_of_ble_eq_true rfl) (fun v7 μ8 hq9 => ?_)
    obtain ⟨e_v7, e_μ8⟩ := hq9
    rw [show (if (martW μ v) = -1 then (0 : Int) else 1) = (if (martW μ v) ≠ -1 then 1 else 0) by by_cases q : (martW μ v) = -1 <;> simp [q]] at e_v7
    refine aw_cg e_v7 ?_
    refine aw_ifz_eq (tgt := 47) hO dX12_martinmas_42 rfl rfl (fun c42 => ?_) (fun c42 => ?_)
    · have c42b : martW μ v = -1 := Classical.byContradiction c42
      rw [if_pos c42b] at e_μ8
      have hpz : ¬ μ.1 0 25 = 0 := fun q => by unfold martW at c42b; rw [if_pos q] at c42b; omega
      have hv1 : 1 ≤ v ∧ v ≤ 60 := Classical.byContradiction (fun q => by unfold martW at c42b; rw [if_neg hpz, if_pos q] at c42b; omega)
      have hv2 : (1 ≤ v ∧ v ≤ 60) ∧ μ.1 17 36 + v ≤ 999 := Classical.byContradiction (fun q => by unfold martW at c42b; rw [if_neg hpz, if_neg (fun z => z hv1), if_pos q] at c42b; omega)
      refine aw_iconst hO dX12_martinmas_47 rfl ?_
      refine aw_istore_n (ls' := [some (vR 0), some (vI v), some (vI 0)]) hO dX12_martinmas_48 rfl (Nat.le_of_ble_eq_true rfl) rfl rfl ?_
      refine aw_lsq (ls' := [some (vR 0), some (vI v), some (vI ((0 : Nat) : Int))]) rfl ?_
      exact lp c42b hv2.1 hv2.2 v.toNat 0 μ8 (by omega) (by rw [e_μ8]; exact ⟨rfl, rfl, rfl, fun _ _ _ _ _ _ _ => rfl⟩)
    · rw [if_neg c42] at e_μ8
      refine aw_iconst hO dX12_martinmas_45 rfl ?_
      refine aw_iret hO dX12_martinmas_46 ?_
      exact ⟨_, rfl, by dsimp only; rw [if_neg c42]; exact ⟨rfl, e_μ8⟩⟩
  refine aw_aload_n hO dX12_martinmas_0 rfl rfl ?_
  refine aw_aload_n hO dX12_martinmas_1 rfl rfl ?_
  refine gM_persons hO dX12_martinmas_2 rfl ?_
  refine aw_if_ne (tgt := 12) hO dX12_martinmas_5 rfl rfl ⟨by omega, by omega⟩ (fun c5 => ?_) (fun c5 => ?_)
  · refine aw_iload_n hO dX12_martinmas_12 rfl rfl ?_
    refine aw_iconst hO dX12_martinmas_13 rfl ?_
    refine aw_bipush hO dX12_martinmas_14 rfl (by decide) (by decide) ?_
    refine aw_callSI (as := [vI v, vI 1, vI 60]) (st := [vR 0]) hO dX12_martinmas_16 rfl (lw_t6 172 rfl rfl) kX12_in (ctM_in μ ⟨by omega, by omega⟩ (inRlit _) (inRlit _)) (by decide) rfl rfl rfl (Nat.le_of_ble_eq_true rfl) ?_
    refine aw_ifz_ne (tgt := 26) hO dX12_martinmas_19 rfl rfl (fun c19 => ?_) (fun c19 => ?_)
    · refine aw_aload_n hO dX12_martinmas_26 rfl rfl ?_
      refine aw_iload_n hO dX12_martinmas_27 rfl rfl ?_
      refine aw_callVI (as := [vI v]) (st := [vR 0]) hO dX12_martinmas_28 rfl (lw_t7 92 rfl rfl) kX12_areYears (T := TX12) rfl (by decide) rfl (ctM_areYears μ h.1 (v := v) hv) (by decide) rfl rfl rfl (Nat.le_of_ble_eq_true rfl) ?_
      refine aw_ifz_ne (tgt := 38) hO dX12_martinmas_31 rfl rfl (fun c31 => ?_) (fun c31 => ?_)
      · refine aw_iconst hO dX12_martinmas_38 rfl ?_
        refine aw_cg (show ((-1) : Int) = (martW μ v) by unfold martW; rw [if_neg c5, if_neg (fun q => q c19), if_neg (fun q => q c31)]) ?_
        exact j
      · refine aw_iconst hO dX12_martinmas_34 rfl ?_
        refine aw_goto (tgt := 39) hO dX12_martinmas_35 rfl ?_
        refine aw_cg (show (4 : Int) = (martW μ v) by unfold martW; rw [if_neg c5, if_neg (fun q => q c19), if_pos c31]) ?_
        exact j
    · refine aw_iconst hO dX12_martinmas_22 rfl ?_
      refine aw_goto (tgt := 39) hO dX12_martinmas_23 rfl ?_
      refine aw_cg (show (1 : Int) = (martW μ v) by unfold martW; rw [if_neg c5, if_pos c19]) ?_
      exact j
  · refine aw_iconst hO dX12_martinmas_8 rfl ?_
    refine aw_goto (tgt := 39) hO dX12_martinmas_9 rfl ?_
    refine aw_cg (show (0 : Int) = (martW μ v) by unfold martW; rw [if_pos c5]) ?_
    exact j
