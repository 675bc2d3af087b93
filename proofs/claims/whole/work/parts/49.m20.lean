
/-! ## first, tour -/
def lvK (μ : Mm) : Nat → Nat → Int
  | 0 => μ.1 17
  | k + 1 => liveF (wN μ (lvK μ k))
def fsM (μ : Mm) (v : Nat) : Nat → Int
  | 0 => -1
  | k + 1 => if fsM μ v k ≠ -1 then fsM μ v k else if μ.1 17 (18 + v) < lvK μ (k + 1) (18 + v) then ((k + 1 : Nat) : Int) else -1
theorem live36 {μ : Mm} (h : MB μ) : liveF μ 36 = μ.1 17 36 + 1 := by
  have h1 := pass36' h
  unfold passF at h1
  rw [addLog_lt (by omega)] at h1
  exact h1
theorem liveHi {μ : Mm} (h : MB μ) {i : Nat} (hi : 37 ≤ i) : liveF μ i = μ.1 17 i := by
  have hnt := h.nt
  have := pickM_rng μ (μ.1 0 25).toNat
  have := h.np
  unfold liveF endF
  rw [if_neg (by omega), if_neg (by omega), if_neg (by omega), if_neg (by omega), trbF_ne (by omega) _ (by omega), crownF_ne _ (by omega) (by omega) (by omega)]
  unfold chM
  omega
theorem lvK_ok {μ : Mm} (h : MG μ) (hy : μ.1 17 36 ≤ 999) : ∀ k : Nat, k ≤ 60 → NowOK (lvK μ k) ∧ lvK μ k 36 = μ.1 17 36 + k ∧ (∀ i, 37 ≤ i → lvK μ k i = μ.1 17 i)
  | 0, _ => ⟨h.1.now, by simp [lvK], fun _ _ => rfl⟩
  | k + 1, hk => by
    obtain ⟨a, b, c⟩ := lvK_ok h hy k (by omega)
    have hG := (MG_N h a).1
    have e : (wN μ (lvK μ k)).1 17 36 = lvK μ k 36 := rfl
    refine ⟨live_ok hG (by rw [e]; omega), ?_, fun i hi => ?_⟩
    · rw [lvK, live36 hG, e]; omega
    · rw [lvK, liveHi hG hi]; exact c i hi
theorem fs_stay {μ : Mm} {v k : Nat} (h : fsM μ v k ≠ -1) : ∀ n, k ≤ n → fsM μ v n = fsM μ v k := by
  intro n hn
  induction n with
  | zero => rw [show k = 0 by omega]
  | succ n ih =>
    by_cases e : k = n + 1
    · rw [e]
    · rw [fsM, ih (by omega), if_pos h]
def loF (s : Int) (dr : Nat → Int) : Nat → Int
  | 0 => 21
  | p + 1 => if hasB s p = true then min (loF s dr p) (dr p) else loF s dr p
def hiF (s : Int) (dr : Nat → Int) : Nat → Int
  | 0 => -1
  | p + 1 => if hasB s p = true then max (hiF s dr p) (dr p) else hiF s dr p
theorem lohi_rng {s : Int} {dr : Nat → Int} (h : ∀ p, p < 6 → 0 ≤ dr p ∧ dr p ≤ 99) : ∀ n, n ≤ 6 → (0 ≤ loF s dr n ∧ loF s dr n ≤ 21) ∧ (-1 ≤ hiF s dr n ∧ hiF s dr n ≤ 99)
  | 0, _ => by unfold loF hiF; omega
  | n + 1, hn => by
    have := lohi_rng (s := s) h n (by omega)
    have := h n (by omega)
    unfold loF hiF
    split <;> omega
theorem dX12_first_0 : decode cX12_first 0 = .ok (.aload_n 0, 1) := by decide +kernel
theorem dX12_first_1 : decode cX12_first 1 = .ok (.iload_n 1, 1) := by decide +kernel
theorem dX12_first_2 : decode cX12_first 2 = .ok (.invokevirtual 313, 3) := by decide +kernel
theorem dX12_first_5 : decode cX12_first 5 = .ok (.ifCond .ne 5, 3) := by decide +kernel
theorem dX12_first_8 : decode cX12_first 8 = .ok (.iconst (-1), 1) := by decide +kernel
theorem dX12_first_9 : decode cX12_first 9 = .ok (.ireturn, 1) := by decide +kernel
theorem dX12_first_10 : decode cX12_first 10 = .ok (.aload_n 0, 1) := by decide +kernel
theorem dX12_first_11 : decode cX12_first 11 = .ok (.invokevirtual 358, 3) := by decide +kernel
theorem dX12_first_14 : decode cX12_first 14 = .ok (.aload_n 0, 1) := by decide +kernel
theorem dX12_first_15 : decode cX12_first 15 = .ok (.getfield 58, 3) := by decide +kernel
theorem dX12_first_18 : decode cX12_first 18 = .ok (.bipush 18, 2) := by decide +kernel
theorem dX12_first_20 : decode cX12_first 20 = .ok (.iload_n 1, 1) := by decide +kernel
theorem dX12_first_21 : decode cX12_first 21 = .ok (.iadd, 1) := by decide +kernel
theorem dX12_first_22 : decode cX12_first 22 = .ok (.iaload, 1) := by decide +kernel
theorem dX12_first_23 : decode cX12_first 23 = .ok (.istore_n 2, 1) := by decide +kernel
theorem dX12_first_24 : decode cX12_first 24 = .ok (.iconst (-1), 1) := by decide +kernel
theorem dX12_first_25 : decode cX12_first 25 = .ok (.istore_n 3, 1) := by decide +kernel
theorem dX12_first_26 : decode cX12_first 26 = .ok (.iconst 1, 1) := by decide +kernel
theorem dX12_first_27 : decode cX12_first 27 = .ok (.istore 4, 2) := by decide +kernel
theorem dX12_first_29 : decode cX12_first 29 = .ok (.iload 4, 2) := by decide +kernel
theorem dX12_first_31 : decode cX12_first 31 = .ok (.bipush 60, 2) := by decide +kernel
theorem dX12_first_33 : decode cX12_first 33 = .ok (.if_icmp .gt 38, 3) := by decide +kernel
theorem dX12_first_36 : decode cX12_first 36 = .ok (.iload_n 3, 1) := by decide +kernel
theorem dX12_first_37 : decode cX12_first 37 = .ok (.iconst (-1), 1) := by decide +kernel
theorem dX12_first_38 : decode cX12_first 38 = .ok (.if_icmp .ne 33, 3) := by decide +kernel
theorem dX12_first_41 : decode cX12_first 41 = .ok (.aload_n 0, 1) := by decide +kernel
theorem dX12_first_42 : decode cX12_first 42 = .ok (.invokevirtual 310, 3) := by decide +kernel
theorem dX12_first_45 : decode cX12_first 45 = .ok (.aload_n 0, 1) := by decide +kernel
theorem dX12_first_46 : decode cX12_first 46 = .ok (.getfield 58, 3) := by decide +kernel
theorem dX12_first_49 : decode cX12_first 49 = .ok (.bipush 18, 2) := by decide +kernel
theorem dX12_first_51 : decode cX12_first 51 = .ok (.iload_n 1, 1) := by decide +kernel
theorem dX12_first_52 : decode cX12_first 52 = .ok (.iadd, 1) := by decide +kernel
theorem dX12_first_53 : decode cX12_first 53 = .ok (.iaload, 1) := by decide +kernel
theorem dX12_first_54 : decode cX12_first 54 = .ok (.iload_n 2, 1) := by decide +kernel
theorem dX12_first_55 : decode cX12_first 55 = .ok (.if_icmp .le 8, 3) := by decide +kernel
theorem dX12_first_58 : decode cX12_first 58 = .ok (.iload 4, 2) := by decide +kernel
theorem dX12_first_60 : decode cX12_first 60 = .ok (.goto 4, 3) := by decide +kernel
theorem dX12_first_63 : decode cX12_first 63 = .ok (.iconst (-1), 1) := by decide +kernel
theorem dX12_first_64 : decode cX12_first 64 = .ok (.istore_n 3, 1) := by decide +kernel
theorem dX12_first_65 : decode cX12_first 65 = .ok (.iinc 4 1, 3) := by decide +kernel
theorem dX12_first_68 : decode cX12_first 68 = .ok (.goto (-39), 3) := by decide +kernel
theorem dX12_first_71 : decode cX12_first 71 = .ok (.aload_n 0, 1) := by decide +kernel
theorem dX12_first_72 : decode cX12_first 72 = .ok (.invokevirtual 364, 3) := by decide +kernel
theorem dX12_first_75 : decode cX12_first 75 = .ok (.iload_n 3, 1) := by decide +kernel
theorem dX12_first_76 : decode cX12_first 76 = .ok (.ireturn, 1) := by decide +kernel
set_option maxHeartbeats 4000000 in
set_option maxRecDepth 100000 in
theorem ctM_first (μ : Mm) (h : MG μ) (hy : μ.1 17 36 ≤ 999) {v : Int} (hv : InR v) : CtE PM 10 yX12_first cX12_first 5 (some .int) [vR 0, vI v] μ (fun r m => r = (if 0 ≤ v ∧ v < μ.1 0 25 then fsM μ v.toNat 60 else -1) ∧ Scr μ m) := by
  refine ct_intro [some (vR 0), some (vI v), none, none, none] RX12 (by decide) rfl XM rfl (Nat.le_of_ble_eq_true rfl) (fun K hO => ?_)
  have hnp := h.1.np
  have hv2 : (0 ≤ v ∧ v < μ.1 0 25) → ∀ (c k : Nat) (m : Mm), (k + c = 60) → fsM μ v.toNat k = -1 → Ap μ (lvK μ k) m → AW K 29 [some (vR 0), some (vI v), some (vI (μ.1 17 (18 + v.toNat))), some (vI (-1)), some (vI ((k + 1 : Nat) : Int))] [] m := by
    intro hvp c
    induction c with
    | zero =>
      intro k m hk hfs hA_m
      have hl := lvK_ok h hy k (by omega)
      refine aw_iload hO dX12_first_29 rfl rfl ?_
      refine aw_bipush hO dX12_first_31 rfl (by decide) (by decide) ?_
      refine aw_icmp_gt (tgt := 71) hO dX12_first_33 rfl rfl (inRn (by omega)) (inRlit _) (fun c33 => ?_) (fun c33 => ?_)
      · refine aw_aload_n hO dX12_first_71 rfl rfl ?_
        refine aw_callVV (as := []) (st := []) hO dX12_first_72 rfl (lw_t7 208 rfl rfl) kX12_takeBack (T := TX12) rfl (by decide) rfl (ctM_takeBack m) (by decide) rfl rfl rfl (Nat.le_of_ble_eq_true rfl) (fun μ2 hq3 => ?_)
        have hR_μ2 : Scr μ μ2 := by rw [hq3]; exact hA_m.back (by intro i hi; exact hl.2.2 i hi)
        refine aw_iload_n hO dX12_first_75 rfl rfl ?_
        refine aw_iret hO dX12_first_76 ?_
        exact ⟨_, rfl, by rw [if_pos hvp, show 60 = k by omega, hfs], hR_μ2⟩
      · exact absurd c33 (by omega)
    | succ c ih =>
      intro k m hk hfs hA_m
      have hl := lvK_ok h hy k (by omega)
      have hl1 := lvK_ok h hy (k + 1) (by omega)
      have hc1 := hl1.1.cha (j := 18 + v.toNat) (by omega) (by omega)
      have hc0 := h.1.now.cha (j := 18 + v.toNat) (by omega) (by omega)
      refine aw_iload hO dX12_first_29 rfl rfl ?_
      refine aw_bipush hO dX12_first_31 rfl (by decide) (by decide) ?_
      refine aw_icmp_gt (tgt := 71) hO dX12_first_33 rfl rfl (inRn (by omega)) (inRlit _) (fun c33 => ?_) (fun c33 => ?_)
      · exact absurd c33 (by omega)
      · refine aw_iload_n hO dX12_first_36 rfl rfl ?_
        refine aw_iconst hO dX12_first_37 rfl ?_
        refine aw_icmp_ne (tgt := 71) hO dX12_first_38 rfl rfl (inRlit _) (inRlit _) (fun c38 => ?_) (fun c38 => ?_)
        · exact absurd c38 (by omega)
        · refine aw_aload_n hO dX12_first_41 rfl rfl ?_
          refine aw_callVV (as := []) (st := []) hO dX12_first_42 rfl (lw_t7 100 rfl rfl) kX12_live (T := TX12) rfl (by decide) rfl (ctM_live m (MG_W (MG_N h hl.1) hA_m.E) (by rw [hA_m.2.2.1]; have := hl.2.1; omega)) (by decide) rfl rfl rfl (Nat.le_of_ble_eq_true rfl) (fun μ5 hq6 => ?_)
          have hA_μ5 : Ap μ (lvK μ (k + 1)) μ5 := by have q := hA_m.lv (G := lvK μ (k + 1)) ⟨by rw [hq6.2.1, liveF_W hA_m.E]; rfl, hq6.2.2⟩; exact q
          refine aw_aload_n hO dX12_first_45 rfl rfl ?_
          refine gM_now hO dX12_first_46 rfl ?_
          refine aw_bipush hO dX12_first_49 rfl (by decide) (by decide) ?_
          refine aw_iload_n hO dX12_first_51 rfl rfl ?_
          refine aw_iadd hO dX12_first_52 rfl ?_
          refine aw_ialdn (N := 218) (i := (18 + v.toNat)) hO dX12_first_53 rfl (by decide) rfl (by decide) (by omega) (by omega) ?_
          refine aw_cg (congrFun hA_μ5.2.2.1 (18 + v.toNat)) ?_
          refine aw_iload_n hO dX12_first_54 rfl rfl ?_
          refine aw_icmp_le (tgt := 63) hO dX12_first_55 rfl rfl ⟨by omega, by omega⟩ ⟨by omega, by omega⟩ (fun c55 => ?_) (fun c55 => ?_)
          · refine aw_iconst hO dX12_first_63 rfl ?_
            refine aw_istore_n (ls' := [some (vR 0), some (vI v), some (vI (μ.1 17 (18 + v.toNat))), some (vI (-1)), some (vI (((k + 1) : Nat) : Int))]) hO dX12_first_64 rfl (Nat.le_of_ble_eq_true rfl) rfl rfl ?_
            refine aw_iinc (ls' := [some (vR 0), some (vI v), some (vI (μ.1 17 (18 + v.toNat))), some (vI (-1)), some (vI ((((k + 1) : Nat) : Int) + 1))]) hO dX12_first_65 rfl rfl rfl rfl ?_
            refine aw_lsq (ls' := [some (vR 0), some (vI v), some (vI (μ.1 17 (18 + v.toNat))), some (vI (-1)), some (vI ((((k + 1) + 1) : Nat) : Int))]) rfl ?_
            refine aw_goto (tgt := 29) hO dX12_first_68 rfl ?_
            refine aw_lsq (ls' := [some (vR 0), some (vI v), some (vI (μ.1 17 (18 + v.toNat))), some (vI (-1)), some (vI (((k + 1 + 1) : Nat) : Int))]) rfl ?_
            exact ih (k + 1) μ5 (by omega) (by rw [fsM, if_neg (fun q => q hfs), if_neg (by omega)]) hA_μ5
          · refine aw_iload hO dX12_first_58 rfl rfl ?_
            refine aw_goto (tgt := 64) hO dX12_first_60 rfl ?_
            refine aw_istore_n (ls' := [some (vR 0), some (vI v), some (vI (μ.1 17 (18 + v.toNat))), some (vI (((k + 1) : Nat) : Int)), some (vI (((k + 1) : Nat) : Int))]) hO dX12_first_64 rfl (Nat.le_of_ble_eq_true rfl) rfl rfl ?_
            refine aw_iinc (ls' := [some (vR 0), some (vI v), some (vI (μ.1 17 (18 + v.toNat))), some (vI (((k + 1) : Nat) : Int)), some (vI ((((k + 1) : Nat) : Int) + 1))]) hO dX12_first_65 rfl rfl rfl rfl ?_
            refine aw_lsq (ls' := [some (vR 0), some (vI v), some (vI (μ.1 17 (18 + v.toNat))), some (vI (((k + 1) : Nat) : Int)), some (vI ((((k + 1) + 1) : Nat) : Int))]) rfl ?_
            refine aw_goto (tgt := 29) hO dX12_first_68 rfl ?_
            refine aw_iload hO dX12_first_29 rfl rfl ?_
            refine aw_bipush hO dX12_first_31 rfl (by decide) (by decide) ?_
            refine aw_icmp_gt (tgt := 71) hO dX12_first_33 rfl rfl ⟨by omega, by omega⟩ (inRlit _) (fun c33 => ?_) (fun c33 => ?_)
            · refine aw_aload_n hO dX12_first_71 rfl rfl ?_
              refine aw_callVV (as := []) (st := []) hO dX12_first_72 rfl (lw_t7 208 rfl rfl) kX12_takeBack (T := TX12) rfl (by decide) rfl (ctM_takeBack μ5) (by decide) rfl rfl rfl (Nat.le_of_ble_eq_true rfl) (fun μ8 hq9 => ?_)
              have hR_μ8 : Scr μ μ8 := by rw [hq9]; exact hA_μ5.back (by intro i hi; exact hl1.2.2 i hi)
              refine aw_iload_n hO dX12_first_75 rfl rfl ?_
              refine aw_iret hO dX12_first_76 ?_
              exact ⟨_, rfl, by rw [if_pos hvp, fs_stay (k := k + 1) (by rw [fsM, if_neg (fun q => q hfs), if_pos c55]; omega) 60 (by omega), fsM, if_neg (fun q => q hfs), if_pos c55], hR_μ8⟩
            · refine aw_iload_n hO dX12_first_36 rfl rfl ?_
              refine aw_iconst hO dX12_first_37 rfl ?_
              refine aw_icmp_ne (tgt := 71) hO dX12_first_38 rfl rfl (inRn (by omega)) (inRlit _) (fun c38 => ?_) (fun c38 => ?_)
              · refine aw_aload_n hO dX12_first_71 rfl rfl ?_
                refine aw_callVV (as := []) (st := []) hO dX12_first_72 rfl (lw_t7 208 rfl rfl) kX12_takeBack (T := TX12) rfl (by decide) rfl (ctM_takeBack μ5) (by decide) rfl rfl rfl (Nat.le_of_ble_eq_true rfl) (fun μ11 hq12 => ?_)
                have hR_μ11 : Scr μ μ11 := by rw [hq12]; exact hA_μ5.back (by intro i hi; exact hl1.2.2 i hi)
                refine aw_iload_n hO dX12_first_75 rfl rfl ?_
                refine aw_iret hO dX12_first_76 ?_
                exact ⟨_, rfl, by rw [if_pos hvp, fs_stay (k := k + 1) (by rw [fsM, if_neg (fun q => q hfs), if_pos c55]; omega) 60 (by omega), fsM, if_neg (fun q => q hfs), if_pos c55], hR_μ11⟩
              · exact absurd c38 (by omega)
  refine aw_aload_n hO dX12_first_0 rfl rfl ?_
  refine aw_iload_n hO dX12_first_1 rfl rfl ?_
  refine aw_callVI (as := [vI v]) (st := []) hO dX12_first_2 rfl (lw_t7 21 rfl rfl) kX12_isPerson (T := TX12) rfl (by decide) rfl (ctM_isPerson μ h.1 (v := v) hv) (by decide) rfl rfl rfl (Nat.le_of_ble_eq_true rfl) ?_
  refine aw_ifz_ne (tgt := 10) hO dX12_first_5 rfl rfl (fun c5 => ?_) (fun c5 => ?_)
  · refine aw_aload_n hO dX12_first_10 rfl rfl ?_
    refine aw_callVV (as := []) (st := []) hO dX12_first_11 rfl (lw_t7 200 rfl rfl) kX12_putAside (T := TX12) rfl (by decide) rfl (ctM_putAside μ) (by decide) rfl rfl rfl (Nat.le_of_ble_eq_true rfl) (fun μ14 hq15 => ?_)
    have hA_μ14 : Ap μ (μ.1 17) μ14 := by rw [hq15]; exact Ap.put μ
    refine aw_aload_n hO dX12_first_14 rfl rfl ?_
    refine gM_now hO dX12_first_15 rfl ?_
    refine aw_bipush hO dX12_first_18 rfl (by decide) (by decide) ?_
    refine aw_iload_n hO dX12_first_20 rfl rfl ?_
    refine aw_iadd hO dX12_first_21 rfl ?_
    refine aw_ialdn (N := 218) (i := (18 + v.toNat)) hO dX12_first_22 rfl (by decide) rfl (by decide) (by omega) (by omega) ?_
    refine aw_cg (congrFun hA_μ14.2.2.1 (18 + v.toNat)) ?_
    refine aw_istore_n (ls' := [some (vR 0), some (vI v), some (vI ((μ.1 17) (18 + v.toNat))), none, none]) hO dX12_first_23 rfl (Nat.le_of_ble_eq_true rfl) rfl rfl ?_
    refine aw_iconst hO dX12_first_24 rfl ?_
    refine aw_istore_n (ls' := [some (vR 0), some (vI v), some (vI ((μ.1 17) (18 + v.toNat))), some (vI (-1)), none]) hO dX12_first_25 rfl (Nat.le_of_ble_eq_true rfl) rfl rfl ?_
    refine aw_iconst hO dX12_first_26 rfl ?_
    refine aw_istore (ls' := [some (vR 0), some (vI v), some (vI ((μ.1 17) (18 + v.toNat))), some (vI (-1)), some (vI 1)]) hO dX12_first_27 rfl (Nat.le_of_ble_eq_true rfl) rfl rfl ?_
    refine aw_lsq (ls' := [some (vR 0), some (vI v), some (vI (μ.1 17 (18 + v.toNat))), some (vI (-1)), some (vI ((0 + 1 : Nat) : Int))]) rfl ?_
    exact hv2 c5 60 0 μ14 rfl rfl hA_μ14
  · refine aw_iconst hO dX12_first_8 rfl ?_
    refine aw_iret hO dX12_first_9 ?_
    exact ⟨_, rfl, by rw [if_neg c5], Scr.rf⟩
theorem dX12_tour_0 : decode cX12_tour 0 = .ok (.aload_n 0, 1) := by decide +kernel
theorem dX12_tour_1 : decode cX12_tour 1 = .ok (.getfield 242, 3) := by decide +kernel
theorem dX12_tour_4 : decode cX12_tour 4 = .ok (.ifCond .eq 36, 3) := by decide +kernel
theorem dX12_tour_7 : decode cX12_tour 7 = .ok (.iload_n 1, 1) := by decide +kernel
theorem dX12_tour_8 : decode cX12_tour 8 = .ok (.iconst 1, 1) := by decide +kernel
theorem dX12_tour_9 : decode cX12_tour 9 = .ok (.aload_n 0, 1) := by decide +kernel
theorem dX12_tour_10 : decode cX12_tour 10 = .ok (.invokevirtual 370, 3) := by decide +kernel
theorem dX12_tour_13 : decode cX12_tour 13 = .ok (.invokestatic 205, 3) := by decide +kernel
theorem dX12_tour_16 : decode cX12_tour 16 = .ok (.ifCond .eq 24, 3) := by decide +kernel
theorem dX12_tour_19 : decode cX12_tour 19 = .ok (.iload_n 1, 1) := by decide +kernel
theorem dX12_tour_20 : decode cX12_tour 20 = .ok (.aload_n 0, 1) := by decide +kernel
theorem dX12_tour_21 : decode cX12_tour 21 = .ok (.getfield 58, 3) := by decide +kernel
theorem dX12_tour_24 : decode cX12_tour 24 = .ok (.bipush 31, 2) := by decide +kernel
theorem dX12_tour_26 : decode cX12_tour 26 = .ok (.iaload, 1) := by decide +kernel
theorem dX12_tour_27 : decode cX12_tour 27 = .ok (.iand, 1) := by decide +kernel
theorem dX12_tour_28 : decode cX12_tour 28 = .ok (.ifCond .ne 12, 3) := by decide +kernel
theorem dX12_tour_31 : decode cX12_tour 31 = .ok (.iload_n 2, 1) := by decide +kernel
theorem dX12_tour_32 : decode cX12_tour 32 = .ok (.iconst 0, 1) := by decide +kernel
theorem dX12_tour_33 : decode cX12_tour 33 = .ok (.iconst 1, 1) := by decide +kernel
theorem dX12_tour_34 : decode cX12_tour 34 = .ok (.invokestatic 205, 3) := by decide +kernel
theorem dX12_tour_37 : decode cX12_tour 37 = .ok (.ifCond .ne 5, 3) := by decide +kernel
theorem dX12_tour_40 : decode cX12_tour 40 = .ok (.iconst (-1), 1) := by decide +kernel
theorem dX12_tour_41 : decode cX12_tour 41 = .ok (.ireturn, 1) := by decide +kernel
theorem dX12_tour_42 : decode cX12_tour 42 = .ok (.bipush 21, 2) := by decide +kernel
theorem dX12_tour_44 : decode cX12_tour 44 = .ok (.istore_n 3, 1) := by decide +kernel
theorem dX12_tour_45 : decode cX12_tour 45 = .ok (.iconst (-1), 1) := by decide +kernel
theorem dX12_tour_46 : decode cX12_tour 46 = .ok (.istore 4, 2) := by decide +kernel
theorem dX12_tour_48 : decode cX12_tour 48 = .ok (.iconst 0, 1) := by decide +kernel
theorem dX12_tour_49 : decode cX12_tour 49 = .ok (.istore 5, 2) := by decide +kernel
theorem dX12_tour_51 : decode cX12_tour 51 = .ok (.iload 5, 2) := by decide +kernel
theorem dX12_tour_53 : decode cX12_tour 53 = .ok (.aload_n 0, 1) := by decide +kernel
theorem dX12_tour_54 : decode cX12_tour 54 = .ok (.getfield 242, 3) := by decide +kernel
theorem dX12_tour_57 : decode cX12_tour 57 = .ok (.if_icmp .ge 62, 3) := by decide +kernel
theorem dX12_tour_60 : decode cX12_tour 60 = .ok (.iload_n 1, 1) := by decide +kernel
theorem dX12_tour_61 : decode cX12_tour 61 = .ok (.iload 5, 2) := by decide +kernel
theorem dX12_tour_63 : decode cX12_tour 63 = .ok (.invokestatic 216, 3) := by decide +kernel
theorem dX12_tour_66 : decode cX12_tour 66 = .ok (.ifCond .eq 17, 3) := by decide +kernel
theorem dX12_tour_69 : decode cX12_tour 69 = .ok (.iload_n 3, 1) := by decide +kernel
theorem dX12_tour_70 : decode cX12_tour 70 = .ok (.aload_n 0, 1) := by decide +kernel
theorem dX12_tour_71 : decode cX12_tour 71 = .ok (.iload 5, 2) := by decide +kernel
theorem dX12_tour_73 : decode cX12_tour 73 = .ok (.iconst 3, 1) := by decide +kernel
theorem dX12_tour_74 : decode cX12_tour 74 = .ok (.invokevirtual 264, 3) := by decide +kernel
theorem dX12_tour_77 : decode cX12_tour 77 = .ok (.invokestatic 267, 3) := by decide +kernel
theorem dX12_tour_80 : decode cX12_tour 80 = .ok (.goto 4, 3) := by decide +kernel
theorem dX12_tour_83 : decode cX12_tour 83 = .ok (.iload_n 3, 1) := by decide +kernel
theorem dX12_tour_84 : decode cX12_tour 84 = .ok (.istore_n 3, 1) := by decide +kernel
theorem dX12_tour_85 : decode cX12_tour 85 = .ok (.iload_n 1, 1) := by decide +kernel
theorem dX12_tour_86 : decode cX12_tour 86 = .ok (.iload 5, 2) := by decide +kernel
theorem dX12_tour_88 : decode cX12_tour 88 = .ok (.invokestatic 216, 3) := by decide +kernel
theorem dX12_tour_91 : decode cX12_tour 91 = .ok (.ifCond .eq 18, 3) := by decide +kernel
theorem dX12_tour_94 : decode cX12_tour 94 = .ok (.iload 4, 2) := by decide +kernel
theorem dX12_tour_96 : decode cX12_tour 96 = .ok (.aload_n 0, 1) := by decide +kernel
theorem dX12_tour_97 : decode cX12_tour 97 = .ok (.iload 5, 2) := by decide +kernel
theorem dX12_tour_99 : decode cX12_tour 99 = .ok (.iconst 3, 1) := by decide +kernel
theorem dX12_tour_100 : decode cX12_tour 100 = .ok (.invokevirtual 264, 3) := by decide +kernel
theorem dX12_tour_103 : decode cX12_tour 103 = .ok (.invokestatic 269, 3) := by decide +kernel
theorem dX12_tour_106 : decode cX12_tour 106 = .ok (.goto 5, 3) := by decide +kernel
theorem dX12_tour_109 : decode cX12_tour 109 = .ok (.iload 4, 2) := by decide +kernel
theorem dX12_tour_111 : decode cX12_tour 111 = .ok (.istore 4, 2) := by decide +kernel
theorem dX12_tour_113 : decode cX12_tour 113 = .ok (.iinc 5 1, 3) := by decide +kernel
theorem dX12_tour_116 : decode cX12_tour 116 = .ok (.goto (-65), 3) := by decide +kernel
theorem dX12_tour_119 : decode cX12_tour 119 = .ok (.aload_n 0, 1) := by decide +kernel
theorem dX12_tour_120 : decode cX12_tour 120 = .ok (.getfield 58, 3) := by decide +kernel
theorem dX12_tour_123 : decode cX12_tour 123 = .ok (.bipush 29, 2) := by decide +kernel
theorem dX12_tour_125 : decode cX12_tour 125 = .ok (.iaload, 1) := by decide +kernel
theorem dX12_tour_126 : decode cX12_tour 126 = .ok (.istore 5, 2) := by decide +kernel
theorem dX12_tour_128 : decode cX12_tour 128 = .ok (.iload_n 3, 1) := by decide +kernel
theorem dX12_tour_129 : decode cX12_tour 129 = .ok (.iload 5, 2) := by decide +kernel
theorem dX12_tour_131 : decode cX12_tour 131 = .ok (.if_icmp .ne 32, 3) := by decide +kernel
theorem dX12_tour_134 : decode cX12_tour 134 = .ok (.iload 4, 2) := by decide +kernel
theorem dX12_tour_136 : decode cX12_tour 136 = .ok (.iload 5, 2) := by decide +kernel
theorem dX12_tour_138 : decode cX12_tour 138 = .ok (.if_icmp .ne 25, 3) := by decide +kernel
theorem dX12_tour_141 : decode cX12_tour 141 = .ok (.iload_n 2, 1) := by decide +kernel
theorem dX12_tour_142 : decode cX12_tour 142 = .ok (.ifCond .ne 7, 3) := by decide +kernel
theorem dX12_tour_145 : decode cX12_tour 145 = .ok (.iconst 1, 1) := by decide +kernel
theorem dX12_tour_146 : decode cX12_tour 146 = .ok (.goto 16, 3) := by decide +kernel
theorem dX12_tour_149 : decode cX12_tour 149 = .ok (.iload 5, 2) := by decide +kernel
theorem dX12_tour_151 : decode cX12_tour 151 = .ok (.ifCond .le 10, 3) := by decide +kernel
theorem dX12_tour_154 : decode cX12_tour 154 = .ok (.iload 5, 2) := by decide +kernel
theorem dX12_tour_156 : decode cX12_tour 156 = .ok (.iconst 1, 1) := by decide +kernel
theorem dX12_tour_157 : decode cX12_tour 157 = .ok (.isub, 1) := by decide +kernel
theorem dX12_tour_158 : decode cX12_tour 158 = .ok (.goto 4, 3) := by decide +kernel
theorem dX12_tour_161 : decode cX12_tour 161 = .ok (.iconst 1, 1) := by decide +kernel
theorem dX12_tour_162 : decode cX12_tour 162 = .ok (.ireturn, 1) := by decide +kernel
theorem dX12_tour_163 : decode cX12_tour 163 = .ok (.iload_n 3, 1) := by decide +kernel
theorem dX12_tour_164 : decode cX12_tour 164 = .ok (.iload 5, 2) := by decide +kernel
theorem dX12_tour_166 : decode cX12_tour 166 = .ok (.if_icmp .lt 18, 3) := by decide +kernel
theorem dX12_tour_169 : decode cX12_tour 169 = .ok (.iload_n 2, 1) := by decide +kernel
theorem dX12_tour_170 : decode cX12_tour 170 = .ok (.ifCond .ne 11, 3) := by decide +kernel
theorem dX12_tour_173 : decode cX12_tour 173 = .ok (.iload 4, 2) := by decide +kernel
theorem dX12_tour_175 : decode cX12_tour 175 = .ok (.iload 5, 2) := by decide +kernel
theorem dX12_tour_177 : decode cX12_tour 177 = .ok (.isub, 1) := by decide +kernel
theorem dX12_tour_178 : decode cX12_tour 178 = .ok (.goto 5, 3) := by decide +kernel
theorem dX12_tour_181 : decode cX12_tour 181 = .ok (.iload 4, 2) := by decide +kernel
theorem dX12_tour_183 : decode cX12_tour 183 = .ok (.ireturn, 1) := by decide +kernel
theorem dX12_tour_184 : decode cX12_tour 184 = .ok (.iload 4, 2) := by decide +kernel
theorem dX12_tour_186 : decode cX12_tour 186 = .ok (.iload 5, 2) := by decide +kernel
theorem dX12_tour_188 : decode cX12_tour 188 = .ok (.if_icmp .gt 16, 3) := by decide +kernel
theorem dX12_tour_191 : decode cX12_tour 191 = .ok (.iload_n 2, 1) := by decide +kernel
theorem dX12_tour_192 : decode cX12_tour 192 = .ok (.ifCond .ne 10, 3) := by decide +kernel
theorem dX12_tour_195 : decode cX12_tour 195 = .ok (.iload 5, 2) := by decide +kernel
theorem dX12_tour_197 : decode cX12_tour 197 = .ok (.iload_n 3, 1) := by decide +kernel
theorem dX12_tour_198 : decode cX12_tour 198 = .ok (.isub, 1) := by decide +kernel
theorem dX12_tour_199 : decode cX12_tour 199 = .ok (.goto 4, 3) := by decide +kernel
theorem dX12_tour_202 : decode cX12_tour 202 = .ok (.iload_n 3, 1) := by decide +kernel
theorem dX12_tour_203 : decode cX12_tour 203 = .ok (.ireturn, 1) := by decide +kernel
theorem dX12_tour_204 : decode cX12_tour 204 = .ok (.iconst 2, 1) := by decide +kernel
theorem dX12_tour_205 : decode cX12_tour 205 = .ok (.iload 4, 2) := by decide +kernel
theorem dX12_tour_207 : decode cX12_tour 207 = .ok (.iload 5, 2) := by decide +kernel
theorem dX12_tour_209 : decode cX12_tour 209 = .ok (.isub, 1) := by decide +kernel
theorem dX12_tour_210 : decode cX12_tour 210 = .ok (.imul, 1) := by decide +kernel
theorem dX12_tour_211 : decode cX12_tour 211 = .ok (.iload 5, 2) := by decide +kernel
theorem dX12_tour_213 : decode cX12_tour 213 = .ok (.iadd, 1) := by decide +kernel
theorem dX12_tour_214 : decode cX12_tour 214 = .ok (.iload_n 3, 1) := by decide +kernel
theorem dX12_tour_215 : decode cX12_tour 215 = .ok (.isub, 1) := by decide +kernel
theorem dX12_tour_216 : decode cX12_tour 216 = .ok (.istore 6, 2) := by decide +kernel
theorem dX12_tour_218 : decode cX12_tour 218 = .ok (.iconst 2, 1) := by decide +kernel
theorem dX12_tour_219 : decode cX12_tour 219 = .ok (.iload 5, 2) := by decide +kernel
theorem dX12_tour_221 : decode cX12_tour 221 = .ok (.iload_n 3, 1) := by decide +kernel
theorem dX12_tour_222 : decode cX12_tour 222 = .ok (.isub, 1) := by decide +kernel
theorem dX12_tour_223 : decode cX12_tour 223 = .ok (.imul, 1) := by decide +kernel
theorem dX12_tour_224 : decode cX12_tour 224 = .ok (.iload 4, 2) := by decide +kernel
theorem dX12_tour_226 : decode cX12_tour 226 = .ok (.iadd, 1) := by decide +kernel
theorem dX12_tour_227 : decode cX12_tour 227 = .ok (.iload 5, 2) := by decide +kernel
theorem dX12_tour_229 : decode cX12_tour 229 = .ok (.isub, 1) := by decide +kernel
theorem dX12_tour_230 : decode cX12_tour 230 = .ok (.istore 7, 2) := by decide +kernel
theorem dX12_tour_232 : decode cX12_tour 232 = .ok (.iload_n 2, 1) := by decide +kernel
theorem dX12_tour_233 : decode cX12_tour 233 = .ok (.ifCond .ne 13, 3) := by decide +kernel
theorem dX12_tour_236 : decode cX12_tour 236 = .ok (.iload 6, 2) := by decide +kernel
theorem dX12_tour_238 : decode cX12_tour 238 = .ok (.iload 7, 2) := by decide +kernel
theorem dX12_tour_240 : decode cX12_tour 240 = .ok (.invokestatic 267, 3) := by decide +kernel
theorem dX12_tour_243 : decode cX12_tour 243 = .ok (.goto 16, 3) := by decide +kernel
theorem dX12_tour_246 : decode cX12_tour 246 = .ok (.iload 6, 2) := by decide +kernel
theorem dX12_tour_248 : decode cX12_tour 248 = .ok (.iload 7, 2) := by decide +kernel
theorem dX12_tour_250 : decode cX12_tour 250 = .ok (.if_icmp .gt 7, 3) := by decide +kernel
theorem dX12_tour_253 : decode cX12_tour 253 = .ok (.iload_n 3, 1) := by decide +kernel
theorem dX12_tour_254 : decode cX12_tour 254 = .ok (.goto 5, 3) := by decide +kernel
theorem dX12_tour_257 : decode cX12_tour 257 = .ok (.iload 4, 2) := by decide +kernel
theorem dX12_tour_259 : decode cX12_tour 259 = .ok (.ireturn, 1) := by decide +kernel

def touM (lo hi fr u : Int) : Int := if lo = fr ∧ hi = fr then (if u = 0 then 1 else if fr ≤ 0 then 1 else fr - 1) else if fr ≤ lo then (if u = 0 then hi - fr else hi) else if hi ≤ fr then (if u = 0 then fr - lo else lo) else (if u = 0 then min (2 * (hi - fr) + fr - lo) (2 * (fr - lo) + hi - fr) else if 2 * (hi - fr) + fr - lo ≤ 2 * (fr - lo) + hi - fr then lo else hi)

theorem evb_all : ∀ n : Fin 7, 0 ≤ bShl 1 ((n.val : Nat) : Int) - 1 ∧ bShl 1 ((n.val : Nat) : Int) - 1 ≤ 63 := by decide +kernel
theorem evb_rng {n : Int} (h1 : 0 ≤ n) (h2 : n ≤ 6) : 0 ≤ bShl 1 n - 1 ∧ bShl 1 n - 1 ≤ 63 := by
  have := evb_all ⟨n.toNat, by omega⟩
  simp only [Int.toNat_of_nonneg h1] at this
  exact this
set_option maxHeartbeats 4000000 in
set_option maxRecDepth 100000 in
theorem ctM_tour (μ : Mm) (h : MB μ) {s u : Int} (hs : InR s) (hu : InR u) : CtI PM 2 yX12_tour cX12_tour 8 (some .int) [vR 0, vI s, vI u] μ (if μ.1 0 25 ≠ 0 ∧ (1 ≤ s ∧ s ≤ bShl 1 (μ.1 0 25) - 1) ∧ bAnd s (μ.1 17 31) = 0 ∧ (0 ≤ u ∧ u ≤ 1) then touM (loF s (fun p => μ.1 15 (4 * p + 3)) (μ.1 0 25).toNat) (hiF s (fun p => μ.1 15 (4 * p + 3)) (μ.1 0 25).toNat) (μ.1 17 29) u else -1) := by
  refine ct_intro [some (vR 0), some (vI s), some (vI u), none, none, none, none, none] RX12 (by decide) rfl XM rfl (Nat.le_of_ble_eq_true rfl) (fun K hO => ?_)
  have hnp := h.np
  have hr := h.now.rest
  have hlh := lohi_rng (s := s) (dr := (fun p => μ.1 15 (4 * p + 3))) (fun p hp => h.per hp (by omega))
  have lp : (μ.1 0 25 ≠ 0 ∧ (1 ≤ s ∧ s ≤ bShl 1 (μ.1 0 25) - 1) ∧ bAnd s (μ.1 17 31) = 0 ∧ (0 ≤ u ∧ u ≤ 1)) → ∀ (c p : Nat) (lo hi : Int), ((p : Int) + c = μ.1 0 25) → lo = (loF s (fun p => μ.1 15 (4 * p + 3)) p) → hi = (hiF s (fun p => μ.1 15 (4 * p + 3)) p) → AW K 51 [some (vR 0), some (vI s), some (vI u), some (vI lo), some (vI hi), some (vI ((p : Nat) : Int)), none, none] [] μ := by
    intro hw c
    induction c with
    | zero =>
      intro p lo hi hp hlo hhi
      have hlp := hlh p (by omega)
      rw [← hlo, ← hhi] at hlp
      refine aw_iload hO dX12_tour_51 rfl rfl ?_
      refine aw_aload_n hO dX12_tour_53 rfl rfl ?_
      refine gM_persons hO dX12_tour_54 rfl ?_
      refine aw_icmp_ge (tgt := 119) hO dX12_tour_57 rfl rfl (inRn (by omega)) ⟨by omega, by omega⟩ (fun c57 => ?_) (fun c57 => ?_)
      · refine aw_aload_n hO dX12_tour_119 rfl rfl ?_
        refine gM_now hO dX12_tour_120 rfl ?_
        refine aw_bipush hO dX12_tour_123 rfl (by decide) (by decide) ?_
        refine aw_ialdn (N := 218) (i := 29) hO dX12_tour_125 rfl (by decide) rfl (by decide) rfl (by decide) ?_
        refine aw_istore (ls' := [some (vR 0), some (vI s), some (vI u), some (vI lo), some (vI hi), some (vI (μ.1 17 29)), none, none]) hO dX12_tour_126 rfl (Nat.le_of_ble_eq_true rfl) rfl rfl ?_
        refine aw_iload_n hO dX12_tour_128 rfl rfl ?_
        refine aw_iload hO dX12_tour_129 rfl rfl ?_
        refine aw_icmp_ne (tgt := 163) hO dX12_tour_131 rfl rfl ⟨by omega, by omega⟩ ⟨by omega, by omega⟩ (fun c131 => ?_) (fun c131 => ?_)
        · refine aw_iload_n hO dX12_tour_163 rfl rfl ?_
          refine aw_iload hO dX12_tour_164 rfl rfl ?_
          refine aw_icmp_lt (tgt := 184) hO dX12_tour_166 rfl rfl ⟨by omega, by omega⟩ ⟨by omega, by omega⟩ (fun c166 => ?_) (fun c166 => ?_)
          · refine aw_iload hO dX12_tour_184 rfl rfl ?_
            refine aw_iload hO dX12_tour_186 rfl rfl ?_
            refine aw_icmp_gt (tgt := 204) hO dX12_tour_188 rfl rfl ⟨by omega, by omega⟩ ⟨by omega, by omega⟩ (fun c188 => ?_) (fun c188 => ?_)
            · refine aw_iconst hO dX12_tour_204 rfl ?_
              refine aw_iload hO dX12_tour_205 rfl rfl ?_
              refine aw_iload hO dX12_tour_207 rfl rfl ?_
              refine aw_isub hO dX12_tour_209 rfl ?_
              refine aw_imul hO dX12_tour_210 rfl ?_
              refine aw_iload hO dX12_tour_211 rfl rfl ?_
              refine aw_iadd hO dX12_tour_213 rfl ?_
              refine aw_iload_n hO dX12_tour_214 rfl rfl ?_
              refine aw_isub hO dX12_tour_215 rfl ?_
              refine aw_istore (ls' := [some (vR 0), some (vI s), some (vI u), some (vI lo), some (vI hi), some (vI (μ.1 17 29)), some (vI (((2 * (hi - (μ.1 17 29))) + (μ.1 17 29)) - lo)), none]) hO dX12_tour_216 rfl (Nat.le_of_ble_eq_true rfl) rfl rfl ?_
              refine aw_iconst hO dX12_tour_218 rfl ?_
              refine aw_iload hO dX12_tour_219 rfl rfl ?_
              refine aw_iload_n hO dX12_tour_221 rfl rfl ?_
              refine aw_isub hO dX12_tour_222 rfl ?_
              refine aw_imul hO dX12_tour_223 rfl ?_
              refine aw_iload hO dX12_tour_224 rfl rfl ?_
              refine aw_iadd hO dX12_tour_226 rfl ?_
              refine aw_iload hO dX12_tour_227 rfl rfl ?_
              refine aw_isub hO dX12_tour_229 rfl ?_
              refine aw_istore (ls' := [some (vR 0), some (vI s), some (vI u), some (vI lo), some (vI hi), some (vI (μ.1 17 29)), some (vI (((2 * (hi - (μ.1 17 29))) + (μ.1 17 29)) - lo)), some (vI (((2 * ((μ.1 17 29) - lo)) + hi) - (μ.1 17 29)))]) hO dX12_tour_230 rfl (Nat.le_of_ble_eq_true rfl) rfl rfl ?_
              refine aw_iload_n hO dX12_tour_232 rfl rfl ?_
              refine aw_if_ne (tgt := 246) hO dX12_tour_233 rfl rfl ⟨by omega, by omega⟩ (fun c233 => ?_) (fun c233 => ?_)
              · refine aw_iload hO dX12_tour_246 rfl rfl ?_
                refine aw_iload hO dX12_tour_248 rfl rfl ?_
                refine aw_icmp_gt (tgt := 257) hO dX12_tour_250 rfl rfl ⟨by omega, by omega⟩ ⟨by omega, by omega⟩ (fun c250 => ?_) (fun c250 => ?_)
                · refine aw_iload hO dX12_tour_257 rfl rfl ?_
                  refine aw_iret hO dX12_tour_259 ?_
                  exact rI (by rw [if_pos hw, show (μ.1 0 25).toNat = p by omega, ← hlo, ← hhi]; unfold touM; rw [if_neg (fun q => c131 q.1), if_neg (by omega), if_neg (by omega), if_neg c233, if_neg (by omega)])
                · refine aw_iload_n hO dX12_tour_253 rfl rfl ?_
                  refine aw_goto (tgt := 259) hO dX12_tour_254 rfl ?_
                  refine aw_iret hO dX12_tour_259 ?_
                  exact rI (by rw [if_pos hw, show (μ.1 0 25).toNat = p by omega, ← hlo, ← hhi]; unfold touM; rw [if_neg (fun q => c131 q.1), if_neg (by omega), if_neg (by omega), if_neg c233, if_pos c250])
              · refine aw_iload hO dX12_tour_236 rfl rfl ?_
                refine aw_iload hO dX12_tour_238 rfl rfl ?_
                refine aw_mmin hO dX12_tour_240 rfl (lw_t7 37 rfl rfl) mth_min (by decide) rfl (Nat.le_of_ble_eq_true rfl) ⟨by omega, by omega⟩ ⟨by omega, by omega⟩ ?_
                refine aw_goto (tgt := 259) hO dX12_tour_243 rfl ?_
                refine aw_iret hO dX12_tour_259 ?_
                exact rI (by rw [if_pos hw, show (μ.1 0 25).toNat = p by omega, ← hlo, ← hhi]; unfold touM; rw [if_neg (fun q => c131 q.1), if_neg (by omega), if_neg (by omega), if_pos c233])
            · refine aw_iload_n hO dX12_tour_191 rfl rfl ?_
              refine aw_if_ne (tgt := 202) hO dX12_tour_192 rfl rfl ⟨by omega, by omega⟩ (fun c192 => ?_) (fun c192 => ?_)
              · refine aw_iload_n hO dX12_tour_202 rfl rfl ?_
                refine aw_iret hO dX12_tour_203 ?_
                exact rI (by rw [if_pos hw, show (μ.1 0 25).toNat = p by omega, ← hlo, ← hhi]; unfold touM; rw [if_neg (fun q => c131 q.1), if_neg (by omega), if_pos c188, if_neg c192])
              · refine aw_iload hO dX12_tour_195 rfl rfl ?_
                refine aw_iload_n hO dX12_tour_197 rfl rfl ?_
                refine aw_isub hO dX12_tour_198 rfl ?_
                refine aw_goto (tgt := 203) hO dX12_tour_199 rfl ?_
                refine aw_iret hO dX12_tour_203 ?_
                exact rI (by rw [if_pos hw, show (μ.1 0 25).toNat = p by omega, ← hlo, ← hhi]; unfold touM; rw [if_neg (fun q => c131 q.1), if_neg (by omega), if_pos c188, if_pos c192])
          · refine aw_iload_n hO dX12_tour_169 rfl rfl ?_
            refine aw_if_ne (tgt := 181) hO dX12_tour_170 rfl rfl ⟨by omega, by omega⟩ (fun c170 => ?_) (fun c170 => ?_)
            · refine aw_iload hO dX12_tour_181 rfl rfl ?_
              refine aw_iret hO dX12_tour_183 ?_
              exact rI (by rw [if_pos hw, show (μ.1 0 25).toNat = p by omega, ← hlo, ← hhi]; unfold touM; rw [if_neg (fun q => c131 q.1), if_pos c166, if_neg c170])
            · refine aw_iload hO dX12_tour_173 rfl rfl ?_
              refine aw_iload hO dX12_tour_175 rfl rfl ?_
              refine aw_isub hO dX12_tour_177 rfl ?_
              refine aw_goto (tgt := 183) hO dX12_tour_178 rfl ?_
              refine aw_iret hO dX12_tour_183 ?_
              exact rI (by rw [if_pos hw, show (μ.1 0 25).toNat = p by omega, ← hlo, ← hhi]; unfold touM; rw [if_neg (fun q => c131 q.1), if_pos c166, if_pos c170])
        · refine aw_iload hO dX12_tour_134 rfl rfl ?_
          refine aw_iload hO dX12_tour_136 rfl rfl ?_
          refine aw_icmp_ne (tgt := 163) hO dX12_tour_138 rfl rfl ⟨by omega, by omega⟩ ⟨by omega, by omega⟩ (fun c138 => ?_) (fun c138 => ?_)
          · refine aw_iload_n hO dX12_tour_163 rfl rfl ?_
            refine aw_iload hO dX12_tour_164 rfl rfl ?_
            refine aw_icmp_lt (tgt := 184) hO dX12_tour_166 rfl rfl ⟨by omega, by omega⟩ ⟨by omega, by omega⟩ (fun c166 => ?_) (fun c166 => ?_)
            · refine aw_iload hO dX12_tour_184 rfl rfl ?_
              refine aw_iload hO dX12_tour_186 rfl rfl ?_
              refine aw_icmp_gt (tgt := 204) hO dX12_tour_188 rfl rfl ⟨by omega, by omega⟩ ⟨by omega, by omega⟩ (fun c188 => ?_) (fun c188 => ?_)
              · refine aw_iconst hO dX12_tour_204 rfl ?_
                refine aw_iload hO dX12_tour_205 rfl rfl ?_
                refine aw_iload hO dX12_tour_207 rfl rfl ?_
                refine aw_isub hO dX12_tour_209 rfl ?_
                refine aw_imul hO dX12_tour_210 rfl ?_
                refine aw_iload hO dX12_tour_211 rfl rfl ?_
                refine aw_iadd hO dX12_tour_213 rfl ?_
                refine aw_iload_n hO dX12_tour_214 rfl rfl ?_
                refine aw_isub hO dX12_tour_215 rfl ?_
                refine aw_istore (ls' := [some (vR 0), some (vI s), some (vI u), some (vI lo), some (vI hi), some (vI (μ.1 17 29)), some (vI (((2 * (hi - (μ.1 17 29))) + (μ.1 17 29)) - lo)), none]) hO dX12_tour_216 rfl (Nat.le_of_ble_eq_true rfl) rfl rfl ?_
                refine aw_iconst hO dX12_tour_218 rfl ?_
                refine aw_iload hO dX12_tour_219 rfl rfl ?_
                refine aw_iload_n hO dX12_tour_221 rfl rfl ?_
                refine aw_isub hO dX12_tour_222 rfl ?_
                refine aw_imul hO dX12_tour_223 rfl ?_
                refine aw_iload hO dX12_tour_224 rfl rfl ?_
                refine aw_iadd hO dX12_tour_226 rfl ?_
                refine aw_iload hO dX12_tour_227 rfl rfl ?_
                refine aw_isub hO dX12_tour_229 rfl ?_
                refine aw_istore (ls' := [some (vR 0), some (vI s), some (vI u), some (vI lo), some (vI hi), some (vI (μ.1 17 29)), some (vI (((2 * (hi - (μ.1 17 29))) + (μ.1 17 29)) - lo)), some (vI (((2 * ((μ.1 17 29) - lo)) + hi) - (μ.1 17 29)))]) hO dX12_tour_230 rfl (Nat.le_of_ble_eq_true rfl) rfl rfl ?_
                refine aw_iload_n hO dX12_tour_232 rfl rfl ?_
                refine aw_if_ne (tgt := 246) hO dX12_tour_233 rfl rfl ⟨by omega, by omega⟩ (fun c233 => ?_) (fun c233 => ?_)
                · refine aw_iload hO dX12_tour_246 rfl rfl ?_
                  refine aw_iload hO dX12_tour_248 rfl rfl ?_
                  refine aw_icmp_gt (tgt := 257) hO dX12_tour_250 rfl rfl ⟨by omega, by omega⟩ ⟨by omega, by omega⟩ (fun c250 => ?_) (fun c250 => ?_)
                  · refine aw_iload hO dX12_tour_257 rfl rfl ?_
                    refine aw_iret hO dX12_tour_259 ?_
                    exact rI (by rw [if_pos hw, show (μ.1 0 25).toNat = p by omega, ← hlo, ← hhi]; unfold touM; rw [if_neg (fun q => c138 q.2), if_neg (by omega), if_neg (by omega), if_neg c233, if_neg (by omega)])
                  · refine aw_iload_n hO dX12_tour_253 rfl rfl ?_
                    refine aw_goto (tgt := 259) hO dX12_tour_254 rfl ?_
                    refine aw_iret hO dX12_tour_259 ?_
                    exact rI (by rw [if_pos hw, show (μ.1 0 25).toNat = p by omega, ← hlo, ← hhi]; unfold touM; rw [if_neg (fun q => c138 q.2), if_neg (by omega), if_neg (by omega), if_neg c233, if_pos c250])
                · refine aw_iload hO dX12_tour_236 rfl rfl ?_
                  refine aw_iload hO dX12_tour_238 rfl rfl ?_
                  refine aw_mmin hO dX12_tour_240 rfl (lw_t7 37 rfl rfl) mth_min (by decide) rfl (Nat.le_of_ble_eq_true rfl) ⟨by omega, by omega⟩ ⟨by omega, by omega⟩ ?_
                  refine aw_goto (tgt := 259) hO dX12_tour_243 rfl ?_
                  refine aw_iret hO dX12_tour_259 ?_
                  exact rI (by rw [if_pos hw, show (μ.1 0 25).toNat = p by omega, ← hlo, ← hhi]; unfold touM; rw [if_neg (fun q => c138 q.2), if_neg (by omega), if_neg (by omega), if_pos c233])
              · refine aw_iload_n hO dX12_tour_191 rfl rfl ?_
                refine aw_if_ne (tgt := 202) hO dX12_tour_192 rfl rfl ⟨by omega, by omega⟩ (fun c192 => ?_) (fun c192 => ?_)
                · refine aw_iload_n hO dX12_tour_202 rfl rfl ?_
                  refine aw_iret hO dX12_tour_203 ?_
                  exact rI (by rw [if_pos hw, show (μ.1 0 25).toNat = p by omega, ← hlo, ← hhi]; unfold touM; rw [if_neg (fun q => c138 q.2), if_neg (by omega), if_pos c188, if_neg c192])
                · refine aw_iload hO dX12_tour_195 rfl rfl ?_
                  refine aw_iload_n hO dX12_tour_197 rfl rfl ?_
                  refine aw_isub hO dX12_tour_198 rfl ?_
                  refine aw_goto (tgt := 203) hO dX12_tour_199 rfl ?_
                  refine aw_iret hO dX12_tour_203 ?_
                  exact rI (by rw [if_pos hw, show (μ.1 0 25).toNat = p by omega, ← hlo, ← hhi]; unfold touM; rw [if_neg (fun q => c138 q.2), if_neg (by omega), if_pos c188, if_pos c192])
            · refine aw_iload_n hO dX12_tour_169 rfl rfl ?_
              refine aw_if_ne (tgt := 181) hO dX12_tour_170 rfl rfl ⟨by omega, by omega⟩ (fun c170 => ?_) (fun c170 => ?_)
              · refine aw_iload hO dX12_tour_181 rfl rfl ?_
                refine aw_iret hO dX12_tour_183 ?_
                exact rI (by rw [if_pos hw, show (μ.1 0 25).toNat = p by omega, ← hlo, ← hhi]; unfold touM; rw [if_neg (fun q => c138 q.2), if_pos c166, if_neg c170])
              · refine aw_iload hO dX12_tour_173 rfl rfl ?_
                refine aw_iload hO dX12_tour_175 rfl rfl ?_
                refine aw_isub hO dX12_tour_177 rfl ?_
                refine aw_goto (tgt := 183) hO dX12_tour_178 rfl ?_
                refine aw_iret hO dX12_tour_183 ?_
                exact rI (by rw [if_pos hw, show (μ.1 0 25).toNat = p by omega, ← hlo, ← hhi]; unfold touM; rw [if_neg (fun q => c138 q.2), if_pos c166, if_pos c170])
          · refine aw_iload_n hO dX12_tour_141 rfl rfl ?_
            refine aw_if_ne (tgt := 149) hO dX12_tour_142 rfl rfl ⟨by omega, by omega⟩ (fun c142 => ?_) (fun c142 => ?_)
            · refine aw_iload hO dX12_tour_149 rfl rfl ?_
              refine aw_if_le (tgt := 161) hO dX12_tour_151 rfl rfl ⟨by omega, by omega⟩ (fun c151 => ?_) (fun c151 => ?_)
              · refine aw_iconst hO dX12_tour_161 rfl ?_
                refine aw_iret hO dX12_tour_162 ?_
                exact rI (by rw [if_pos hw, show (μ.1 0 25).toNat = p by omega, ← hlo, ← hhi]; unfold touM; rw [if_pos ⟨c131, c138⟩, if_neg c142, if_pos c151])
              · refine aw_iload hO dX12_tour_154 rfl rfl ?_
                refine aw_iconst hO dX12_tour_156 rfl ?_
                refine aw_isub hO dX12_tour_157 rfl ?_
                refine aw_goto (tgt := 162) hO dX12_tour_158 rfl ?_
                refine aw_iret hO dX12_tour_162 ?_
                exact rI (by rw [if_pos hw, show (μ.1 0 25).toNat = p by omega, ← hlo, ← hhi]; unfold touM; rw [if_pos ⟨c131, c138⟩, if_neg c142, if_neg (by omega)])
            · refine aw_iconst hO dX12_tour_145 rfl ?_
              refine aw_goto (tgt := 162) hO dX12_tour_146 rfl ?_
              refine aw_iret hO dX12_tour_162 ?_
              exact rI (by rw [if_pos hw, show (μ.1 0 25).toNat = p by omega, ← hlo, ← hhi]; unfold touM; rw [if_pos ⟨c131, c138⟩, if_pos c142])
      · exact absurd c57 (by omega)
    | succ c ih =>
      intro p lo hi hp hlo hhi
      have hlp := hlh p (by omega)
      rw [← hlo, ← hhi] at hlp
      refine aw_iload hO dX12_tour_51 rfl rfl ?_
      refine aw_aload_n hO dX12_tour_53 rfl rfl ?_
      refine gM_persons hO dX12_tour_54 rfl ?_
      refine aw_icmp_ge (tgt := 119) hO dX12_tour_57 rfl rfl (inRn (by omega)) ⟨by omega, by omega⟩ (fun c57 => ?_) (fun c57 => ?_)
      · exact absurd c57 (by omega)
      · refine aw_iload_n hO dX12_tour_60 rfl rfl ?_
        refine aw_iload hO dX12_tour_61 rfl rfl ?_
        refine aw_callSI (as := [vI s, vI ((p : Nat) : Int)]) (st := []) hO dX12_tour_63 rfl (lw_t6 155 rfl rfl) kX12_has (ctM_has μ s p) (by decide) rfl rfl rfl (Nat.le_of_ble_eq_true rfl) ?_
        refine aw_ifz_eq (tgt := 83) hO dX12_tour_66 rfl rfl (fun c66 => ?_) (fun c66 => ?_)
        · refine aw_iload_n hO dX12_tour_83 rfl rfl ?_
          refine aw_istore_n (ls' := [some (vR 0), some (vI s), some (vI u), some (vI lo), some (vI hi), some (vI ((p : Nat) : Int)), none, none]) hO dX12_tour_84 rfl (Nat.le_of_ble_eq_true rfl) rfl rfl ?_
          refine aw_iload_n hO dX12_tour_85 rfl rfl ?_
          refine aw_iload hO dX12_tour_86 rfl rfl ?_
          refine aw_callSI (as := [vI s, vI ((p : Nat) : Int)]) (st := []) hO dX12_tour_88 rfl (lw_t6 155 rfl rfl) kX12_has (ctM_has μ s p) (by decide) rfl rfl rfl (Nat.le_of_ble_eq_true rfl) ?_
          refine aw_ifz_eq (tgt := 109) hO dX12_tour_91 rfl rfl (fun c91 => ?_) (fun c91 => ?_)
          · refine aw_iload hO dX12_tour_109 rfl rfl ?_
            refine aw_istore (ls' := [some (vR 0), some (vI s), some (vI u), some (vI lo), some (vI hi), some (vI ((p : Nat) : Int)), none, none]) hO dX12_tour_111 rfl (Nat.le_of_ble_eq_true rfl) rfl rfl ?_
            refine aw_iinc (ls' := [some (vR 0), some (vI s), some (vI u), some (vI lo), some (vI hi), some (vI (((p : Nat) : Int) + 1)), none, none]) hO dX12_tour_113 rfl rfl rfl rfl ?_
            refine aw_lsq (ls' := [some (vR 0), some (vI s), some (vI u), some (vI lo), some (vI hi), some (vI (((p + 1) : Nat) : Int)), none, none]) rfl ?_
            refine aw_goto (tgt := 51) hO dX12_tour_116 rfl ?_
            refine aw_lsq (ls' := [some (vR 0), some (vI s), some (vI u), some (vI lo), some (vI hi), some (vI (((p + 1) : Nat) : Int)), none, none]) rfl ?_
            exact ih (p + 1) _ _ (by omega) (by rw [loF, if_neg c66, ← hlo]) (by rw [hiF, if_neg c66, ← hhi])
          · first | exact absurd c66 c91 | exact absurd c91 c66
        · refine aw_iload_n hO dX12_tour_69 rfl rfl ?_
          refine aw_aload_n hO dX12_tour_70 rfl rfl ?_
          refine aw_iload hO dX12_tour_71 rfl rfl ?_
          refine aw_iconst hO dX12_tour_73 rfl ?_
          refine aw_callVI (as := [vI ((p : Nat) : Int), vI 3]) (st := [vI lo]) hO dX12_tour_74 rfl (lw_t7 25 rfl rfl) kX12_of (T := TX12) rfl (by decide) rfl (ctM_of μ (p := p) (k := 3) (by omega) (by omega)) (by decide) rfl rfl rfl (Nat.le_of_ble_eq_true rfl) ?_
          have hpd := h.per (p := p) (k := 3) (by omega) (by omega)
          refine aw_mmin hO dX12_tour_77 rfl (lw_t7 37 rfl rfl) mth_min (by decide) rfl (Nat.le_of_ble_eq_true rfl) ⟨by omega, by omega⟩ ⟨by omega, by omega⟩ ?_
          refine aw_goto (tgt := 84) hO dX12_tour_80 rfl ?_
          refine aw_istore_n (ls' := [some (vR 0), some (vI s), some (vI u), some (vI (min lo (μ.1 15 (4 * p + 3)))), some (vI hi), some (vI ((p : Nat) : Int)), none, none]) hO dX12_tour_84 rfl (Nat.le_of_ble_eq_true rfl) rfl rfl ?_
          refine aw_iload_n hO dX12_tour_85 rfl rfl ?_
          refine aw_iload hO dX12_tour_86 rfl rfl ?_
          refine aw_callSI (as := [vI s, vI ((p : Nat) : Int)]) (st := []) hO dX12_tour_88 rfl (lw_t6 155 rfl rfl) kX12_has (ctM_has μ s p) (by decide) rfl rfl rfl (Nat.le_of_ble_eq_true rfl) ?_
          refine aw_ifz_eq (tgt := 109) hO dX12_tour_91 rfl rfl (fun c91 => ?_) (fun c91 => ?_)
          · first | exact absurd c66 c91 | exact absurd c91 c66
          · refine aw_iload hO dX12_tour_94 rfl rfl ?_
            refine aw_aload_n hO dX12_tour_96 rfl rfl ?_
            refine aw_iload hO dX12_tour_97 rfl rfl ?_
            refine aw_iconst hO dX12_tour_99 rfl ?_
            refine aw_callVI (as := [vI ((p : Nat) : Int), vI 3]) (st := [vI hi]) hO dX12_tour_100 rfl (lw_t7 25 rfl rfl) kX12_of (T := TX12) rfl (by decide) rfl (ctM_of μ (p := p) (k := 3) (by omega) (by omega)) (by decide) rfl rfl rfl (Nat.le_of_ble_eq_true rfl) ?_
            have hpd := h.per (p := p) (k := 3) (by omega) (by omega)
            refine aw_mmax hO dX12_tour_103 rfl (lw_t7 71 rfl rfl) mth_max (by decide) rfl (Nat.le_of_ble_eq_true rfl) ⟨by omega, by omega⟩ ⟨by omega, by omega⟩ ?_
            refine aw_goto (tgt := 111) hO dX12_tour_106 rfl ?_
            refine aw_istore (ls' := [some (vR 0), some (vI s), some (vI u), some (vI (min lo (μ.1 15 (4 * p + 3)))), some (vI (max hi (μ.1 15 (4 * p + 3)))), some (vI ((p : Nat) : Int)), none, none]) hO dX12_tour_111 rfl (Nat.le_of_ble_eq_true rfl) rfl rfl ?_
            refine aw_iinc (ls' := [some (vR 0), some (vI s), some (vI u), some (vI (min lo (μ.1 15 (4 * p + 3)))), some (vI (max hi (μ.1 15 (4 * p + 3)))), some (vI (((p : Nat) : Int) + 1)), none, none]) hO dX12_tour_113 rfl rfl rfl rfl ?_
            refine aw_lsq (ls' := [some (vR 0), some (vI s), some (vI u), some (vI (min lo (μ.1 15 (4 * p + 3)))), some (vI (max hi (μ.1 15 (4 * p + 3)))), some (vI (((p + 1) : Nat) : Int)), none, none]) rfl ?_
            refine aw_goto (tgt := 51) hO dX12_tour_116 rfl ?_
            refine aw_lsq (ls' := [some (vR 0), some (vI s), some (vI u), some (vI (min lo (μ.1 15 (4 * p + 3)))), some (vI (max hi (μ.1 15 (4 * p + 3)))), some (vI (((p + 1) : Nat) : Int)), none, none]) rfl ?_
            exact ih (p + 1) _ _ (by omega) (by rw [loF, if_pos c66, ← hlo]) (by rw [hiF, if_pos c66, ← hhi])
  have heb : 0 ≤ bShl 1 (μ.1 0 25) - 1 ∧ bShl 1 (μ.1 0 25) - 1 ≤ 63 := evb_rng hnp.1 hnp.2
  refine aw_aload_n hO dX12_tour_0 rfl rfl ?_
  refine gM_persons hO dX12_tour_1 rfl ?_
  refine aw_if_eq (tgt := 40) hO dX12_tour_4 rfl rfl ⟨by omega, by omega⟩ (fun c4 => ?_) (fun c4 => ?_)
  · refine aw_iconst hO dX12_tour_40 rfl ?_
    refine aw_iret hO dX12_tour_41 ?_
    exact rI (by rw [if_neg (fun q => q.1 c4)])
  · refine aw_iload_n hO dX12_tour_7 rfl rfl ?_
    refine aw_iconst hO dX12_tour_8 rfl ?_
    refine aw_aload_n hO dX12_tour_9 rfl rfl ?_
    refine aw_callVI (as := []) (st := [vI 1, vI s]) hO dX12_tour_10 rfl (lw_t7 216 rfl rfl) kX12_everybody (T := TX12) rfl (by decide) rfl (ctM_everybody μ) (by decide) rfl rfl rfl (Nat.le_of_ble_eq_true rfl) ?_
    refine aw_callSI (as := [vI s, vI 1, vI (bShl 1 (μ.1 0 25) - 1)]) (st := []) hO dX12_tour_13 rfl (lw_t6 172 rfl rfl) kX12_in (ctM_in μ ⟨by omega, by omega⟩ (inRlit _) ⟨by omega, by omega⟩) (by decide) rfl rfl rfl (Nat.le_of_ble_eq_true rfl) ?_
    refine aw_ifz_eq (tgt := 40) hO dX12_tour_16 rfl rfl (fun c16 => ?_) (fun c16 => ?_)
    · refine aw_iconst hO dX12_tour_40 rfl ?_
      refine aw_iret hO dX12_tour_41 ?_
      exact rI (by rw [if_neg (fun q => c16 q.2.1)])
    · refine aw_iload_n hO dX12_tour_19 rfl rfl ?_
      refine aw_aload_n hO dX12_tour_20 rfl rfl ?_
      refine gM_now hO dX12_tour_21 rfl ?_
      refine aw_bipush hO dX12_tour_24 rfl (by decide) (by decide) ?_
      refine aw_ialdn (N := 218) (i := 31) hO dX12_tour_26 rfl (by decide) rfl (by decide) rfl (by decide) ?_
      refine aw_iand hO dX12_tour_27 rfl ?_
      refine aw_if_ne (tgt := 40) hO dX12_tour_28 rfl rfl (bAnd_R _ _) (fun c28 => ?_) (fun c28 => ?_)
      · refine aw_iconst hO dX12_tour_40 rfl ?_
        refine aw_iret hO dX12_tour_41 ?_
        exact rI (by rw [if_neg (fun q => c28 q.2.2.1)])
      · refine aw_iload_n hO dX12_tour_31 rfl rfl ?_
        refine aw_iconst hO dX12_tour_32 rfl ?_
        refine aw_iconst hO dX12_tour_33 rfl ?_
        refine aw_callSI (as := [vI u, vI 0, vI 1]) (st := []) hO dX12_tour_34 rfl (lw_t6 172 rfl rfl) kX12_in (ctM_in μ ⟨by omega, by omega⟩ (inRlit _) (inRlit _)) (by decide) rfl rfl rfl (Nat.le_of_ble_eq_true rfl) ?_
        refine aw_ifz_ne (tgt := 42) hO dX12_tour_37 rfl rfl (fun c37 => ?_) (fun c37 => ?_)
        · refine aw_bipush hO dX12_tour_42 rfl (by decide) (by decide) ?_
          refine aw_istore_n (ls' := [some (vR 0), some (vI s), some (vI u), some (vI 21), none, none, none, none]) hO dX12_tour_44 rfl (Nat.le_of_ble_eq_true rfl) rfl rfl ?_
          refine aw_iconst hO dX12_tour_45 rfl ?_
          refine aw_istore (ls' := [some (vR 0), some (vI s), some (vI u), some (vI 21), some (vI (-1)), none, none, none]) hO dX12_tour_46 rfl (Nat.le_of_ble_eq_true rfl) rfl rfl ?_
          refine aw_iconst hO dX12_tour_48 rfl ?_
          refine aw_istore (ls' := [some (vR 0), some (vI s), some (vI u), some (vI 21), some (vI (-1)), some (vI 0), none, none]) hO dX12_tour_49 rfl (Nat.le_of_ble_eq_true rfl) rfl rfl ?_
          refine aw_lsq (ls' := [some (vR 0), some (vI s), some (vI u), some (vI 21), some (vI (-1)), some (vI ((0 : Nat) : Int)), none, none]) rfl ?_
          exact lp ⟨c4, c16, c28, c37⟩ (μ.1 0 25).toNat 0 21 (-1) (by omega) rfl rfl
        · refine aw_iconst hO dX12_tour_40 rfl ?_
          refine aw_iret hO dX12_tour_41 ?_
          exact rI (by rw [if_neg (fun q => c37 q.2.2.2)])
