
/-! ## years by draws -/
theorem MG_long {μ : Mm} {x : Int} (h : MG μ) : MG (mlong μ x) := h
theorem MB_long {μ : Mm} {x : Int} (h : MB μ) : MB (mlong μ x) := h
def farF (f : Nat → Int) (v : Int) : Int := if 0 ≤ v - f 29 then v - f 29 else -(v - f 29)
def walk1 (μ : Mm) (s : (Nat → Int) × Int) : (Nat → Int) × Int := (if drw (seed1 s.2) 21 ≠ s.1 29 ∧ ¬ 40 < s.1 30 + farF s.1 (drw (seed1 s.2) 21) then walkF s.1 (drw (seed1 s.2) 21) (okW (wN μ s.1) (drw (seed1 s.2) 21)) (μ.1 0 25).toNat else s.1, seed1 s.2)
def walkK (μ : Mm) (s : (Nat → Int) × Int) : Nat → (Nat → Int) × Int
  | 0 => s
  | k + 1 => walk1 μ (walkK μ s k)
def feiF (μ : Mm) (s : (Nat → Int) × Int) : (Nat → Int) × Int := (fu s.1 (6 + 2 * (drw (seed1 s.2) (μ.1 0 25)).toNat + (drw (seed1 (seed1 s.2)) 2).toNat) (s.1 (6 + 2 * (drw (seed1 s.2) (μ.1 0 25)).toNat + (drw (seed1 (seed1 s.2)) 2).toNat) + (if hasB (s.1 31) (drw (seed1 s.2) (μ.1 0 25)).toNat = false ∧ s.1 (6 + 2 * (drw (seed1 s.2) (μ.1 0 25)).toNat + (drw (seed1 (seed1 s.2)) 2).toNat) < 3 then 1 else 0)), seed1 (seed1 s.2))
def fatF (μ : Mm) (s : (Nat → Int) × Int) : (Nat → Int) × Int := if drw (seed1 s.2) 10 < μ.1 0 30 then (fu s.1 31 (bXor (s.1 31) (bShl 1 (drw (seed1 (seed1 s.2)) (μ.1 0 25)))), seed1 (seed1 s.2)) else (s.1, seed1 s.2)
def drawF (μ : Mm) (s : (Nat → Int) × Int) : (Nat → Int) × Int := fatF μ (feiF μ (walkK μ s 3))
theorem NowOK.upd {f : Nat → Int} (h : NowOK f) {i : Nat} {v : Int} (h1 : i < 6 → 0 ≤ v ∧ v ≤ 9) (h2 : 6 ≤ i → i < 18 → 0 ≤ v ∧ v ≤ 3) (h3 : 18 ≤ i → i < 29 → False) (h4 : i = 29 → 0 ≤ v ∧ v ≤ 20) (h5 : i = 30 → 0 ≤ v ∧ v ≤ 40) (h6 : i = 31 → 0 ≤ v ∧ v ≤ 63) (h7 : 32 ≤ i → i < 38 → False) : NowOK (fu f i v) := by
  have hr := h.rest
  unfold NowOK
  refine ⟨fun p hp => ?_, fun j hj => ?_, fun p hp => ?_, fun t ht => ?_, ?_⟩
  · by_cases e : p = i
    · rw [e, fu_eq]; exact h1 (by omega)
    · rw [fu_ne e]; exact h.1 p hp
  · by_cases e : 6 + j = i
    · rw [e, fu_eq]; exact h2 (by omega) (by omega)
    · rw [fu_ne e]; exact h.2.1 j hj
  · rw [fu_ne (fun e => h3 (by omega) (by omega))]; exact h.2.2.1 p hp
  · rw [fu_ne (fun e => h3 (by omega) (by omega))]; exact h.2.2.2.1 t ht
  · have a29 : 0 ≤ fu f i v 29 ∧ fu f i v 29 ≤ 20 := by
      by_cases e : 29 = i
      · rw [← e, fu_eq]; exact h4 e.symm
      · rw [fu_ne e]; exact hr.1
    have a30 : 0 ≤ fu f i v 30 ∧ fu f i v 30 ≤ 40 := by
      by_cases e : 30 = i
      · rw [← e, fu_eq]; exact h5 e.symm
      · rw [fu_ne e]; exact hr.2.1
    have a31 : 0 ≤ fu f i v 31 ∧ fu f i v 31 ≤ 63 := by
      by_cases e : 31 = i
      · rw [← e, fu_eq]; exact h6 e.symm
      · rw [fu_ne e]; exact hr.2.2.1
    rw [fu_ne (j := 32) (fun e => h7 (by omega) (by omega)), fu_ne (j := 33) (fun e => h7 (by omega) (by omega)), fu_ne (j := 34) (fun e => h7 (by omega) (by omega)), fu_ne (j := 35) (fun e => h7 (by omega) (by omega)), fu_ne (j := 36) (fun e => h7 (by omega) (by omega)), fu_ne (j := 37) (fun e => h7 (by omega) (by omega))]
    exact ⟨a29, a30, a31, hr.2.2.2⟩
theorem walk_ok {f : Nat → Int} (h : NowOK f) {v : Int} {ok : Nat → Bool} {n : Nat} (hn : n ≤ 6) (h1 : 0 ≤ v) (h2 : v ≤ 20) (h3 : ¬ 40 < f 30 + farF f v) : NowOK (walkF f v ok n) := by
  have hr := h.rest
  have e30 : walkF f v ok n 30 = f 30 + (max v (f 29) - min v (f 29)) := by unfold walkF; rw [if_pos rfl]
  have e29 : walkF f v ok n 29 = v := by unfold walkF; rw [if_neg (by omega), if_pos rfl]
  have eo : ∀ i, 6 ≤ i → i ≠ 29 → i ≠ 30 → walkF f v ok n i = f i := fun i a b c => by unfold walkF; rw [if_neg c, if_neg b, if_neg (by omega)]
  unfold farF at h3
  have h30 : f 30 + (max v (f 29) - min v (f 29)) ≤ 40 := by split at h3 <;> omega
  unfold NowOK
  refine ⟨fun p hp => ?_, fun j hj => by rw [eo _ (by omega) (by omega) (by omega)]; exact h.2.1 j hj, fun p hp => by rw [eo _ (by omega) (by omega) (by omega)]; exact h.2.2.1 p hp, fun t ht => by rw [eo _ (by omega) (by omega) (by omega)]; exact h.2.2.2.1 t ht, ?_⟩
  · have := h.1 p hp
    unfold walkF
    rw [if_neg (by omega), if_neg (by omega)]
    split <;> omega
  · rw [e29, e30, eo 31 (by omega) (by omega) (by omega), eo 32 (by omega) (by omega) (by omega), eo 33 (by omega) (by omega) (by omega), eo 34 (by omega) (by omega) (by omega), eo 35 (by omega) (by omega) (by omega), eo 36 (by omega) (by omega) (by omega), eo 37 (by omega) (by omega) (by omega)]
    omega
theorem xor_all : ∀ a : Fin 64, ∀ q : Fin 6, 0 ≤ bXor ((a.val : Nat) : Int) (bShl 1 ((q.val : Nat) : Int)) ∧ bXor ((a.val : Nat) : Int) (bShl 1 ((q.val : Nat) : Int)) ≤ 63 := by decide +kernel
theorem xor_rng {a q : Int} (h1 : 0 ≤ a) (h2 : a ≤ 63) (h3 : 0 ≤ q) (h4 : q < 6) : 0 ≤ bXor a (bShl 1 q) ∧ bXor a (bShl 1 q) ≤ 63 := by
  have := xor_all ⟨a.toNat, by omega⟩ ⟨q.toNat, by omega⟩
  simp only [Int.toNat_of_nonneg h1, Int.toNat_of_nonneg h3] at this
  exact this
theorem walk1_ok {μ : Mm} (h : MB μ) {s : (Nat → Int) × Int} (hs : NowOK s.1) : NowOK (walk1 μ s).1 := by
  unfold walk1
  dsimp only
  split
  · rename_i hc
    have hd := drw_rng (x := seed1 s.2) (j := 21) (by omega)
    have := h.np
    exact walk_ok hs (by omega) (by omega) (by omega) hc.2
  · exact hs
theorem walkK_ok {μ : Mm} (h : MB μ) {s : (Nat → Int) × Int} (hs : NowOK s.1) : ∀ k, NowOK (walkK μ s k).1
  | 0 => hs
  | k + 1 => walk1_ok h (walkK_ok h hs k)
theorem feiF_ok {μ : Mm} (h : MB μ) (hp : μ.1 0 25 ≠ 0) {s : (Nat → Int) × Int} (hs : NowOK s.1) : NowOK (feiF μ s).1 := by
  have hnp := h.np
  have h1 := drw_rng (x := seed1 s.2) (j := μ.1 0 25) (by omega)
  have h2 := drw_rng (x := seed1 (seed1 s.2)) (j := 2) (by omega)
  have hf := hs.fei (j := 6 + 2 * (drw (seed1 s.2) (μ.1 0 25)).toNat + (drw (seed1 (seed1 s.2)) 2).toNat) (by omega) (by omega)
  refine hs.upd (by omega) (fun _ _ => ?_) (by omega) (by omega) (by omega) (by omega) (by omega)
  split <;> omega
theorem fatF_ok {μ : Mm} (h : MB μ) (hp : μ.1 0 25 ≠ 0) {s : (Nat → Int) × Int} (hs : NowOK s.1) : NowOK (fatF μ s).1 := by
  have hnp := h.np
  have h1 := drw_rng (x := seed1 (seed1 s.2)) (j := μ.1 0 25) (by omega)
  have hr := hs.rest
  unfold fatF
  split
  · exact hs.upd (by omega) (by omega) (by omega) (by omega) (by omega) (fun _ => xor_rng (by omega) (by omega) (by omega) (by omega)) (by omega)
  · exact hs
theorem drawF_ok {μ : Mm} (h : MB μ) (hp : μ.1 0 25 ≠ 0) {s : (Nat → Int) × Int} (hs : NowOK s.1) : NowOK (drawF μ s).1 := fatF_ok h hp (feiF_ok h hp (walkK_ok h hs 3))
/-- the memory with another state and another seed -/
def mD (μ : Mm) (s : (Nat → Int) × Int) : Mm := mlong (mrow μ 17 s.1) s.2
theorem mD_17 {μ : Mm} {s : (Nat → Int) × Int} : (mD μ s).1 17 = s.1 := by show (mrow μ 17 s.1).1 17 = s.1; exact mrow_at
theorem mD_nk {μ : Mm} {s : (Nat → Int) × Int} {k : Nat} (h : k ≠ 17) : (mD μ s).1 k = μ.1 k := by show (mrow μ 17 s.1).1 k = μ.1 k; exact mrow_nk h
theorem mD_x {μ : Mm} {s : (Nat → Int) × Int} : (mD μ s).2.1 = s.2 := rfl
theorem mD_long {μ : Mm} {s : (Nat → Int) × Int} {x : Int} : mlong (mD μ s) x = mD μ (s.1, x) := rfl
theorem mD_row {μ : Mm} {s : (Nat → Int) × Int} {f : Nat → Int} : mrow (mD μ s) 17 f = mD μ (f, s.2) := by
  unfold mD
  show mlong (mrow (mrow μ 17 s.1) 17 f) s.2 = _
  rw [mrow_mrow]
theorem mD_st {μ : Mm} {s : (Nat → Int) × Int} {i : Nat} {v : Int} : mst (mD μ s) 17 i v = mD μ (fu s.1 i v, s.2) := by rw [mst_row, mD_17, mD_row]
theorem mD_MB {μ : Mm} (h : MG μ) {s : (Nat → Int) × Int} (hs : NowOK s.1) : MB (mD μ s) := (MG_N h hs).1
theorem okW_mD {μ : Mm} {s : (Nat → Int) × Int} {v : Int} : okW (mD μ s) v = okW (wN μ s.1) v := rfl
theorem dX12_drawYear_0 : decode cX12_drawYear 0 = .ok (.iconst 0, 1) := by decide +kernel
theorem dX12_drawYear_1 : decode cX12_drawYear 1 = .ok (.istore_n 1, 1) := by decide +kernel
theorem dX12_drawYear_2 : decode cX12_drawYear 2 = .ok (.iload_n 1, 1) := by decide +kernel
theorem dX12_drawYear_3 : decode cX12_drawYear 3 = .ok (.iconst 3, 1) := by decide +kernel
theorem dX12_drawYear_4 : decode cX12_drawYear 4 = .ok (.if_icmp .ge 41, 3) := by decide +kernel
theorem dX12_drawYear_7 : decode cX12_drawYear 7 = .ok (.aload_n 0, 1) := by decide +kernel
theorem dX12_drawYear_8 : decode cX12_drawYear 8 = .ok (.bipush 21, 2) := by decide +kernel
theorem dX12_drawYear_10 : decode cX12_drawYear 10 = .ok (.invokevirtual 351, 3) := by decide +kernel
theorem dX12_drawYear_13 : decode cX12_drawYear 13 = .ok (.istore_n 2, 1) := by decide +kernel
theorem dX12_drawYear_14 : decode cX12_drawYear 14 = .ok (.iload_n 2, 1) := by decide +kernel
theorem dX12_drawYear_15 : decode cX12_drawYear 15 = .ok (.aload_n 0, 1) := by decide +kernel
theorem dX12_drawYear_16 : decode cX12_drawYear 16 = .ok (.getfield 58, 3) := by decide +kernel
theorem dX12_drawYear_19 : decode cX12_drawYear 19 = .ok (.bipush 29, 2) := by decide +kernel
theorem dX12_drawYear_21 : decode cX12_drawYear 21 = .ok (.iaload, 1) := by decide +kernel
theorem dX12_drawYear_22 : decode cX12_drawYear 22 = .ok (.if_icmp .eq 17, 3) := by decide +kernel
theorem dX12_drawYear_25 : decode cX12_drawYear 25 = .ok (.aload_n 0, 1) := by decide +kernel
theorem dX12_drawYear_26 : decode cX12_drawYear 26 = .ok (.iload_n 2, 1) := by decide +kernel
theorem dX12_drawYear_27 : decode cX12_drawYear 27 = .ok (.invokevirtual 322, 3) := by decide +kernel
theorem dX12_drawYear_30 : decode cX12_drawYear 30 = .ok (.ifCond .ne 9, 3) := by decide +kernel
theorem dX12_drawYear_33 : decode cX12_drawYear 33 = .ok (.aload_n 0, 1) := by decide +kernel
theorem dX12_drawYear_34 : decode cX12_drawYear 34 = .ok (.iload_n 2, 1) := by decide +kernel
theorem dX12_drawYear_35 : decode cX12_drawYear 35 = .ok (.invokevirtual 331, 3) := by decide +kernel
theorem dX12_drawYear_38 : decode cX12_drawYear 38 = .ok (.pop, 1) := by decide +kernel
theorem dX12_drawYear_39 : decode cX12_drawYear 39 = .ok (.iinc 1 1, 3) := by decide +kernel
theorem dX12_drawYear_42 : decode cX12_drawYear 42 = .ok (.goto (-40), 3) := by decide +kernel
theorem dX12_drawYear_45 : decode cX12_drawYear 45 = .ok (.aload_n 0, 1) := by decide +kernel
theorem dX12_drawYear_46 : decode cX12_drawYear 46 = .ok (.aload_n 0, 1) := by decide +kernel
theorem dX12_drawYear_47 : decode cX12_drawYear 47 = .ok (.getfield 242, 3) := by decide +kernel
theorem dX12_drawYear_50 : decode cX12_drawYear 50 = .ok (.invokevirtual 351, 3) := by decide +kernel
theorem dX12_drawYear_53 : decode cX12_drawYear 53 = .ok (.istore_n 1, 1) := by decide +kernel
theorem dX12_drawYear_54 : decode cX12_drawYear 54 = .ok (.aload_n 0, 1) := by decide +kernel
theorem dX12_drawYear_55 : decode cX12_drawYear 55 = .ok (.iconst 2, 1) := by decide +kernel
theorem dX12_drawYear_56 : decode cX12_drawYear 56 = .ok (.invokevirtual 351, 3) := by decide +kernel
theorem dX12_drawYear_59 : decode cX12_drawYear 59 = .ok (.istore_n 2, 1) := by decide +kernel
theorem dX12_drawYear_60 : decode cX12_drawYear 60 = .ok (.aload_n 0, 1) := by decide +kernel
theorem dX12_drawYear_61 : decode cX12_drawYear 61 = .ok (.getfield 58, 3) := by decide +kernel
theorem dX12_drawYear_64 : decode cX12_drawYear 64 = .ok (.bipush 6, 2) := by decide +kernel
theorem dX12_drawYear_66 : decode cX12_drawYear 66 = .ok (.iconst 2, 1) := by decide +kernel
theorem dX12_drawYear_67 : decode cX12_drawYear 67 = .ok (.iload_n 1, 1) := by decide +kernel
theorem dX12_drawYear_68 : decode cX12_drawYear 68 = .ok (.imul, 1) := by decide +kernel
theorem dX12_drawYear_69 : decode cX12_drawYear 69 = .ok (.iadd, 1) := by decide +kernel
theorem dX12_drawYear_70 : decode cX12_drawYear 70 = .ok (.iload_n 2, 1) := by decide +kernel
theorem dX12_drawYear_71 : decode cX12_drawYear 71 = .ok (.iadd, 1) := by decide +kernel
theorem dX12_drawYear_72 : decode cX12_drawYear 72 = .ok (.dup2, 1) := by decide +kernel
theorem dX12_drawYear_73 : decode cX12_drawYear 73 = .ok (.iaload, 1) := by decide +kernel
theorem dX12_drawYear_74 : decode cX12_drawYear 74 = .ok (.aload_n 0, 1) := by decide +kernel
theorem dX12_drawYear_75 : decode cX12_drawYear 75 = .ok (.iload_n 1, 1) := by decide +kernel
theorem dX12_drawYear_76 : decode cX12_drawYear 76 = .ok (.iload_n 2, 1) := by decide +kernel
theorem dX12_drawYear_77 : decode cX12_drawYear 77 = .ok (.invokevirtual 334, 3) := by decide +kernel
theorem dX12_drawYear_80 : decode cX12_drawYear 80 = .ok (.ifCond .eq 7, 3) := by decide +kernel
theorem dX12_drawYear_83 : decode cX12_drawYear 83 = .ok (.iconst 1, 1) := by decide +kernel
theorem dX12_drawYear_84 : decode cX12_drawYear 84 = .ok (.goto 4, 3) := by decide +kernel
theorem dX12_drawYear_87 : decode cX12_drawYear 87 = .ok (.iconst 0, 1) := by decide +kernel
theorem dX12_drawYear_88 : decode cX12_drawYear 88 = .ok (.iadd, 1) := by decide +kernel
theorem dX12_drawYear_89 : decode cX12_drawYear 89 = .ok (.iastore, 1) := by decide +kernel
theorem dX12_drawYear_90 : decode cX12_drawYear 90 = .ok (.aload_n 0, 1) := by decide +kernel
theorem dX12_drawYear_91 : decode cX12_drawYear 91 = .ok (.bipush 10, 2) := by decide +kernel
theorem dX12_drawYear_93 : decode cX12_drawYear 93 = .ok (.invokevirtual 351, 3) := by decide +kernel
theorem dX12_drawYear_96 : decode cX12_drawYear 96 = .ok (.aload_n 0, 1) := by decide +kernel
theorem dX12_drawYear_97 : decode cX12_drawYear 97 = .ok (.getfield 68, 3) := by decide +kernel
theorem dX12_drawYear_100 : decode cX12_drawYear 100 = .ok (.if_icmp .ge 23, 3) := by decide +kernel
theorem dX12_drawYear_103 : decode cX12_drawYear 103 = .ok (.aload_n 0, 1) := by decide +kernel
theorem dX12_drawYear_104 : decode cX12_drawYear 104 = .ok (.getfield 58, 3) := by decide +kernel
theorem dX12_drawYear_107 : decode cX12_drawYear 107 = .ok (.bipush 31, 2) := by decide +kernel
theorem dX12_drawYear_109 : decode cX12_drawYear 109 = .ok (.dup2, 1) := by decide +kernel
theorem dX12_drawYear_110 : decode cX12_drawYear 110 = .ok (.iaload, 1) := by decide +kernel
theorem dX12_drawYear_111 : decode cX12_drawYear 111 = .ok (.iconst 1, 1) := by decide +kernel
theorem dX12_drawYear_112 : decode cX12_drawYear 112 = .ok (.aload_n 0, 1) := by decide +kernel
theorem dX12_drawYear_113 : decode cX12_drawYear 113 = .ok (.aload_n 0, 1) := by decide +kernel
theorem dX12_drawYear_114 : decode cX12_drawYear 114 = .ok (.getfield 242, 3) := by decide +kernel
theorem dX12_drawYear_117 : decode cX12_drawYear 117 = .ok (.invokevirtual 351, 3) := by decide +kernel
theorem dX12_drawYear_120 : decode cX12_drawYear 120 = .ok (.ishl, 1) := by decide +kernel
theorem dX12_drawYear_121 : decode cX12_drawYear 121 = .ok (.ixor, 1) := by decide +kernel
theorem dX12_drawYear_122 : decode cX12_drawYear 122 = .ok (.iastore, 1) := by decide +kernel
theorem dX12_drawYear_123 : decode cX12_drawYear 123 = .ok (.return_, 1) := by decide +kernel
set_option maxHeartbeats 4000000 in
set_option maxRecDepth 100000 in
theorem ctM_drawYear (μ : Mm) (h : MG μ) (hp : μ.1 0 25 ≠ 0) (hf : 0 ≤ μ.1 0 30) (hf2 : μ.1 0 30 ≤ 9) : CtV PM 3 yX12_drawYear cX12_drawYear 3 none [vR 0] μ (fun m => m = mD μ (drawF μ (μ.1 17, μ.2.1))) := by
  refine ct_intro [some (vR 0), none, none] RX12 (by decide) rfl XM rfl (Nat.le_of_ble_eq_true rfl) (fun K hO => ?_)
  have hnp := h.1.np
  have tail : ∀ (m : Mm) (s : (Nat → Int) × Int), m = mD μ s → NowOK s.1 → (mD μ (drawF μ (μ.1 17, μ.2.1)) = mD μ (fatF μ (feiF μ s))) → AW K 45 [some (vR 0), none, none] [] m := by
    intro m s hm_m hok hF
    have hr := hok.rest
    refine aw_aload_n hO dX12_drawYear_45 rfl rfl ?_
    refine aw_aload_n hO dX12_drawYear_46 rfl rfl ?_
    refine gM_persons hO dX12_drawYear_47 rfl ?_
    refine aw_cg (show m.1 0 25 = μ.1 0 25 by rw [hm_m, mD_nk (by decide)]) ?_
    refine aw_callVE (as := [vI (μ.1 0 25)]) (st := []) hO dX12_drawYear_50 rfl (lw_t7 165 rfl rfl) kX12_draw (T := TX12) rfl (by decide) rfl (ctM_draw m (j := (μ.1 0 25)) (by omega) (by omega)) (by decide) rfl rfl rfl (Nat.le_of_ble_eq_true rfl) (fun v1 μ2 hq3 => ?_)
    obtain ⟨e_v1, e_μ2⟩ := hq3
    rw [show m.2.1 = s.2 by rw [hm_m]; rfl] at e_v1 e_μ2
    have hd_v1 := drw_rng (x := seed1 (s.2)) (j := (μ.1 0 25)) (by omega)
    have hm_μ2 : μ2 = mD μ (s.1, seed1 (s.2)) := by rw [e_μ2, hm_m]; rfl
    rw [← e_v1] at hd_v1
    refine aw_istore_n (ls' := [some (vR 0), some (vI v1), none]) hO dX12_drawYear_53 rfl (Nat.le_of_ble_eq_true rfl) rfl rfl ?_
    refine aw_aload_n hO dX12_drawYear_54 rfl rfl ?_
    refine aw_iconst hO dX12_drawYear_55 rfl ?_
    refine aw_callVE (as := [vI 2]) (st := []) hO dX12_drawYear_56 rfl (lw_t7 165 rfl rfl) kX12_draw (T := TX12) rfl (by decide) rfl (ctM_draw μ2 (j := 2) (by omega) (by omega)) (by decide) rfl rfl rfl (Nat.le_of_ble_eq_true rfl) (fun v4 μ5 hq6 => ?_)
    obtain ⟨e_v4, e_μ5⟩ := hq6
    rw [show μ2.2.1 = seed1 (s.2) by rw [hm_μ2]; rfl] at e_v4 e_μ5
    have hd_v4 := drw_rng (x := seed1 (seed1 (s.2))) (j := 2) (by omega)
    have hm_μ5 : μ5 = mD μ (s.1, seed1 (seed1 (s.2))) := by rw [e_μ5, hm_μ2]; rfl
    rw [← e_v4] at hd_v4
    refine aw_istore_n (ls' := [some (vR 0), some (vI v1), some (vI v4)]) hO dX12_drawYear_59 rfl (Nat.le_of_ble_eq_true rfl) rfl rfl ?_
    refine aw_aload_n hO dX12_drawYear_60 rfl rfl ?_
    refine gM_now hO dX12_drawYear_61 rfl ?_
    refine aw_bipush hO dX12_drawYear_64 rfl (by decide) (by decide) ?_
    refine aw_iconst hO dX12_drawYear_66 rfl ?_
    refine aw_iload_n hO dX12_drawYear_67 rfl rfl ?_
    refine aw_imul hO dX12_drawYear_68 rfl ?_
    refine aw_iadd hO dX12_drawYear_69 rfl ?_
    refine aw_iload_n hO dX12_drawYear_70 rfl rfl ?_
    refine aw_iadd hO dX12_drawYear_71 rfl ?_
    refine aw_dup2 hO dX12_drawYear_72 rfl rfl rfl ?_
    have hfe := hok.fei (j := (6 + 2 * v1.toNat + v4.toNat)) (by omega) (by omega)
    refine aw_ialdn (N := 218) (i := (6 + 2 * v1.toNat + v4.toNat)) hO dX12_drawYear_73 rfl (by decide) rfl (by decide) (by omega) (by omega) ?_
    refine aw_cg (show μ5.1 17 (6 + 2 * v1.toNat + v4.toNat) = s.1 (6 + 2 * v1.toNat + v4.toNat) by rw [hm_μ5, mD_17]) ?_
    refine aw_aload_n hO dX12_drawYear_74 rfl rfl ?_
    refine aw_iload_n hO dX12_drawYear_75 rfl rfl ?_
    refine aw_iload_n hO dX12_drawYear_76 rfl rfl ?_
    refine aw_stq (st' := [vI ((v4.toNat : Nat) : Int), vI ((v1.toNat : Nat) : Int), vR 0, vI (s.1 (6 + 2 * v1.toNat + v4.toNat)), vI ((6 + (2 * v1)) + v4), vR 17]) (by rw [Int.toNat_of_nonneg (by omega), Int.toNat_of_nonneg (by omega)]) ?_
    refine aw_callVI (as := [vI ((v1.toNat : Nat) : Int), vI ((v4.toNat : Nat) : Int)]) (st := [vI (s.1 (6 + 2 * v1.toNat + v4.toNat)), vI ((6 + (2 * v1)) + v4), vR 17]) hO dX12_drawYear_77 rfl (lw_t7 76 rfl rfl) kX12_canFeign (T := TX12) rfl (by decide) rfl (ctM_canFeign μ5 (by rw [hm_μ5]; exact mD_MB h hok) (p := v1.toNat) (k := v4.toNat) (by omega) (by omega)) (by decide) rfl rfl rfl (Nat.le_of_ble_eq_true rfl) ?_
    rw [show μ5.1 17 = s.1 by rw [hm_μ5, mD_17]]
    refine aw_ifz_eq (tgt := 87) hO dX12_drawYear_80 rfl rfl (fun c80 => ?_) (fun c80 => ?_)
    · refine aw_iconst hO dX12_drawYear_87 rfl ?_
      refine aw_iadd hO dX12_drawYear_88 rfl ?_
      refine aw_iastn (N := 218) (i := (6 + 2 * v1.toNat + v4.toNat)) hO dX12_drawYear_89 rfl (by decide) rfl (by decide) (by omega) (by omega) ?_
      refine aw_mm (fun μ7 e_μ7 => ?_)
      have hm_μ7 : μ7 = mD μ (feiF μ s) := by rw [e_μ7, hm_μ5, mD_st]; unfold feiF; dsimp only; rw [← e_v1, ← e_v4, if_neg c80]
      have hok2 : NowOK (feiF μ s).1 := feiF_ok h.1 hp hok
      refine aw_aload_n hO dX12_drawYear_90 rfl rfl ?_
      refine aw_bipush hO dX12_drawYear_91 rfl (by decide) (by decide) ?_
      refine aw_callVE (as := [vI 10]) (st := []) hO dX12_drawYear_93 rfl (lw_t7 165 rfl rfl) kX12_draw (T := TX12) rfl (by decide) rfl (ctM_draw μ7 (j := 10) (by omega) (by omega)) (by decide) rfl rfl rfl (Nat.le_of_ble_eq_true rfl) (fun v8 μ9 hq10 => ?_)
      obtain ⟨e_v8, e_μ9⟩ := hq10
      rw [show μ7.2.1 = (feiF μ s).2 by rw [hm_μ7]; rfl] at e_v8 e_μ9
      have hd_v8 := drw_rng (x := seed1 ((feiF μ s).2)) (j := 10) (by omega)
      have hm_μ9 : μ9 = mD μ ((feiF μ s).1, seed1 ((feiF μ s).2)) := by rw [e_μ9, hm_μ7]; rfl
      rw [← e_v8] at hd_v8
      refine aw_aload_n hO dX12_drawYear_96 rfl rfl ?_
      refine gM_fated hO dX12_drawYear_97 rfl ?_
      refine aw_cg (show μ9.1 0 30 = μ.1 0 30 by rw [hm_μ9, mD_nk (by decide)]) ?_
      refine aw_icmp_ge (tgt := 123) hO dX12_drawYear_100 rfl rfl ⟨by omega, by omega⟩ ⟨by omega, by omega⟩ (fun c100 => ?_) (fun c100 => ?_)
      · refine aw_vret hO dX12_drawYear_123 ?_
        exact ⟨rfl, by rw [hF, hm_μ9]; unfold fatF; rw [if_neg (by rw [← e_v8]; omega)]⟩
      · refine aw_aload_n hO dX12_drawYear_103 rfl rfl ?_
        refine gM_now hO dX12_drawYear_104 rfl ?_
        refine aw_bipush hO dX12_drawYear_107 rfl (by decide) (by decide) ?_
        refine aw_dup2 hO dX12_drawYear_109 rfl rfl rfl ?_
        refine aw_ialdn (N := 218) (i := 31) hO dX12_drawYear_110 rfl (by decide) rfl (by decide) rfl (by decide) ?_
        refine aw_cg (show μ9.1 17 31 = (feiF μ s).1 31 by rw [hm_μ9, mD_17]) ?_
        refine aw_iconst hO dX12_drawYear_111 rfl ?_
        refine aw_aload_n hO dX12_drawYear_112 rfl rfl ?_
        refine aw_aload_n hO dX12_drawYear_113 rfl rfl ?_
        refine gM_persons hO dX12_drawYear_114 rfl ?_
        refine aw_cg (show μ9.1 0 25 = μ.1 0 25 by rw [hm_μ9, mD_nk (by decide)]) ?_
        refine aw_callVE (as := [vI (μ.1 0 25)]) (st := [vI 1, vI ((feiF μ s).1 31), vI 31, vR 17]) hO dX12_drawYear_117 rfl (lw_t7 165 rfl rfl) kX12_draw (T := TX12) rfl (by decide) rfl (ctM_draw μ9 (j := (μ.1 0 25)) (by omega) (by omega)) (by decide) rfl rfl rfl (Nat.le_of_ble_eq_true rfl) (fun v11 μ12 hq13 => ?_)
        obtain ⟨e_v11, e_μ12⟩ := hq13
        rw [show μ9.2.1 = seed1 ((feiF μ s).2) by rw [hm_μ9]; rfl] at e_v11 e_μ12
        have hd_v11 := drw_rng (x := seed1 (seed1 ((feiF μ s).2))) (j := (μ.1 0 25)) (by omega)
        have hm_μ12 : μ12 = mD μ ((feiF μ s).1, seed1 (seed1 ((feiF μ s).2))) := by rw [e_μ12, hm_μ9]; rfl
        rw [← e_v11] at hd_v11
        refine aw_ishl hO dX12_drawYear_120 rfl ?_
        refine aw_ixor hO dX12_drawYear_121 rfl ?_
        refine aw_iastn (N := 218) (i := 31) hO dX12_drawYear_122 rfl (by decide) rfl (by decide) rfl (by decide) ?_
        refine aw_mm (fun μ14 e_μ14 => ?_)
        have hm_μ14 : μ14 = mD μ (fatF μ (feiF μ s)) := by rw [e_μ14, hm_μ12, mD_st]; unfold fatF; rw [if_pos (by rw [← e_v8]; exact c100), ← e_v11]
        refine aw_vret hO dX12_drawYear_123 ?_
        exact ⟨rfl, by rw [hF]; exact hm_μ14⟩
    · refine aw_iconst hO dX12_drawYear_83 rfl ?_
      refine aw_goto (tgt := 88) hO dX12_drawYear_84 rfl ?_
      refine aw_iadd hO dX12_drawYear_88 rfl ?_
      refine aw_iastn (N := 218) (i := (6 + 2 * v1.toNat + v4.toNat)) hO dX12_drawYear_89 rfl (by decide) rfl (by decide) (by omega) (by omega) ?_
      refine aw_mm (fun μ15 e_μ15 => ?_)
      have hm_μ15 : μ15 = mD μ (feiF μ s) := by rw [e_μ15, hm_μ5, mD_st]; unfold feiF; dsimp only; rw [← e_v1, ← e_v4, if_pos c80]
      have hok2 : NowOK (feiF μ s).1 := feiF_ok h.1 hp hok
      refine aw_aload_n hO dX12_drawYear_90 rfl rfl ?_
      refine aw_bipush hO dX12_drawYear_91 rfl (by decide) (by decide) ?_
      refine aw_callVE (as := [vI 10]) (st := []) hO dX12_drawYear_93 rfl (lw_t7 165 rfl rfl) kX12_draw (T := TX12) rfl (by decide) rfl (ctM_draw μ15 (j := 10) (by omega) (by omega)) (by decide) rfl rfl rfl (Nat.le_of_ble_eq_true rfl) (fun v16 μ17 hq18 => ?_)
      obtain ⟨e_v16, e_μ17⟩ := hq18
      rw [show μ15.2.1 = (feiF μ s).2 by rw [hm_μ15]; rfl] at e_v16 e_μ17
      have hd_v16 := drw_rng (x := seed1 ((feiF μ s).2)) (j := 10) (by omega)
      have hm_μ17 : μ17 = mD μ ((feiF μ s).1, seed1 ((feiF μ s).2)) := by rw [e_μ17, hm_μ15]; rfl
      rw [← e_v16] at hd_v16
      refine aw_aload_n hO dX12_drawYear_96 rfl rfl ?_
      refine gM_fated hO dX12_drawYear_97 rfl ?_
      refine aw_cg (show μ17.1 0 30 = μ.1 0 30 by rw [hm_μ17, mD_nk (by decide)]) ?_
      refine aw_icmp_ge (tgt := 123) hO dX12_drawYear_100 rfl rfl ⟨by omega, by omega⟩ ⟨by omega, by omega⟩ (fun c100 => ?_) (fun c100 => ?_)
      · refine aw_vret hO dX12_drawYear_123 ?_
        exact ⟨rfl, by rw [hF, hm_μ17]; unfold fatF; rw [if_neg (by rw [← e_v16]; omega)]⟩
      · refine aw_aload_n hO dX12_drawYear_103 rfl rfl ?_
        refine gM_now hO dX12_drawYear_104 rfl ?_
        refine aw_bipush hO dX12_drawYear_107 rfl (by decide) (by decide) ?_
        refine aw_dup2 hO dX12_drawYear_109 rfl rfl rfl ?_
        refine aw_ialdn (N := 218) (i := 31) hO dX12_drawYear_110 rfl (by decide) rfl (by decide) rfl (by decide) ?_
        refine aw_cg (show μ17.1 17 31 = (feiF μ s).1 31 by rw [hm_μ17, mD_17]) ?_
        refine aw_iconst hO dX12_drawYear_111 rfl ?_
        refine aw_aload_n hO dX12_drawYear_112 rfl rfl ?_
        refine aw_aload_n hO dX12_drawYear_113 rfl rfl ?_
        refine gM_persons hO dX12_drawYear_114 rfl ?_
        refine aw_cg (show μ17.1 0 25 = μ.1 0 25 by rw [hm_μ17, mD_nk (by decide)]) ?_
        refine aw_callVE (as := [vI (μ.1 0 25)]) (st := [vI 1, vI ((feiF μ s).1 31), vI 31, vR 17]) hO dX12_drawYear_117 rfl (lw_t7 165 rfl rfl) kX12_draw (T := TX12) rfl (by decide) rfl (ctM_draw μ17 (j := (μ.1 0 25)) (by omega) (by omega)) (by decide) rfl rfl rfl (Nat.le_of_ble_eq_true rfl) (fun v19 μ20 hq21 => ?_)
        obtain ⟨e_v19, e_μ20⟩ := hq21
        rw [show μ17.2.1 = seed1 ((feiF μ s).2) by rw [hm_μ17]; rfl] at e_v19 e_μ20
        have hd_v19 := drw_rng (x := seed1 (seed1 ((feiF μ s).2))) (j := (μ.1 0 25)) (by omega)
        have hm_μ20 : μ20 = mD μ ((feiF μ s).1, seed1 (seed1 ((feiF μ s).2))) := by rw [e_μ20, hm_μ17]; rfl
        rw [← e_v19] at hd_v19
        refine aw_ishl hO dX12_drawYear_120 rfl ?_
        refine aw_ixor hO dX12_drawYear_121 rfl ?_
        refine aw_iastn (N := 218) (i := 31) hO dX12_drawYear_122 rfl (by decide) rfl (by decide) rfl (by decide) ?_
        refine aw_mm (fun μ22 e_μ22 => ?_)
        have hm_μ22 : μ22 = mD μ (fatF μ (feiF μ s)) := by rw [e_μ22, hm_μ20, mD_st]; unfold fatF; rw [if_pos (by rw [← e_v16]; exact c100), ← e_v19]
        refine aw_vret hO dX12_drawYear_123 ?_
        exact ⟨rfl, by rw [hF]; exact hm_μ22⟩
  have lp : ∀ (c : Nat) (k : Nat) (m2 : Mm), (k + c = 3) → (m2 = mD μ (walkK μ (μ.1 17, μ.2.1) k)) → (NowOK (walkK μ (μ.1 17, μ.2.1) k).1) → AW K 2 [some (vR 0), some (vI ((k : Nat) : Int)), none] [] m2 := by
    intro c
    induction c with
    | zero =>
      intro k m2 hk hm_m2 hok
      refine aw_iload_n hO dX12_drawYear_2 rfl rfl ?_
      refine aw_iconst hO dX12_drawYear_3 rfl ?_
      refine aw_icmp_ge (tgt := 45) hO dX12_drawYear_4 rfl rfl (inRn (by omega)) (inRlit _) (fun c4 => ?_) (fun c4 => ?_)
      · refine aw_fg (ls' := [some (vR 0), none, none]) ⟨rfl, trivial⟩ ?_
        exact tail m2 _ hm_m2 hok (by unfold drawF; rw [show k = 3 by omega])
      · exact absurd c4 (by omega)
    | succ c ih =>
      intro k m2 hk hm_m2 hok
      have hr := hok.rest
      refine aw_iload_n hO dX12_drawYear_2 rfl rfl ?_
      refine aw_iconst hO dX12_drawYear_3 rfl ?_
      refine aw_icmp_ge (tgt := 45) hO dX12_drawYear_4 rfl rfl (inRn (by omega)) (inRlit _) (fun c4 => ?_) (fun c4 => ?_)
      · exact absurd c4 (by omega)
      · refine aw_aload_n hO dX12_drawYear_7 rfl rfl ?_
        refine aw_bipush hO dX12_drawYear_8 rfl (by decide) (by decide) ?_
        refine aw_callVE (as := [vI 21]) (st := []) hO dX12_drawYear_10 rfl (lw_t7 165 rfl rfl) kX12_draw (T := TX12) rfl (by decide) rfl (ctM_draw m2 (j := 21) (by omega) (by omega)) (by decide) rfl rfl rfl (Nat.le_of_ble_eq_true rfl) (fun v23 μ24 hq25 => ?_)
        obtain ⟨e_v23, e_μ24⟩ := hq25
        rw [show m2.2.1 = (walkK μ (μ.1 17, μ.2.1) k).2 by rw [hm_m2]; rfl] at e_v23 e_μ24
        have hd_v23 := drw_rng (x := seed1 ((walkK μ (μ.1 17, μ.2.1) k).2)) (j := 21) (by omega)
        have hm_μ24 : μ24 = mD μ ((walkK μ (μ.1 17, μ.2.1) k).1, seed1 ((walkK μ (μ.1 17, μ.2.1) k).2)) := by rw [e_μ24, hm_m2]; rfl
        rw [← e_v23] at hd_v23
        refine aw_istore_n (ls' := [some (vR 0), some (vI ((k : Nat) : Int)), some (vI v23)]) hO dX12_drawYear_13 rfl (Nat.le_of_ble_eq_true rfl) rfl rfl ?_
        refine aw_iload_n hO dX12_drawYear_14 rfl rfl ?_
        refine aw_aload_n hO dX12_drawYear_15 rfl rfl ?_
        refine gM_now hO dX12_drawYear_16 rfl ?_
        refine aw_bipush hO dX12_drawYear_19 rfl (by decide) (by decide) ?_
        refine aw_ialdn (N := 218) (i := 29) hO dX12_drawYear_21 rfl (by decide) rfl (by decide) rfl (by decide) ?_
        refine aw_cg (show μ24.1 17 29 = (walkK μ (μ.1 17, μ.2.1) k).1 29 by rw [hm_μ24, mD_17]) ?_
        refine aw_icmp_eq (tgt := 39) hO dX12_drawYear_22 rfl rfl ⟨by omega, by omega⟩ ⟨by omega, by omega⟩ (fun c22 => ?_) (fun c22 => ?_)
        · refine aw_iinc (ls' := [some (vR 0), some (vI (((k : Nat) : Int) + 1)), some (vI v23)]) hO dX12_drawYear_39 rfl rfl rfl rfl ?_
          refine aw_lsq (ls' := [some (vR 0), some (vI (((k + 1) : Nat) : Int)), some (vI v23)]) rfl ?_
          refine aw_goto (tgt := 2) hO dX12_drawYear_42 rfl ?_
          refine aw_fg (ls' := [some (vR 0), some (vI (((k + 1) : Nat) : Int)), none]) ⟨rfl, rfl, trivial⟩ ?_
          exact ih (k + 1) μ24 (by omega) (by rw [hm_μ24]; show _ = mD μ (walk1 μ (walkK μ (μ.1 17, μ.2.1) k)); unfold walk1; rw [if_neg (fun q => q.1 (by rw [← e_v23]; exact c22))]) (walkK_ok h.1 h.1.now (k + 1))
        · refine aw_aload_n hO dX12_drawYear_25 rfl rfl ?_
          refine aw_iload_n hO dX12_drawYear_26 rfl rfl ?_
          refine aw_callVI (as := [vI v23]) (st := []) hO dX12_drawYear_27 rfl (lw_t7 50 rfl rfl) kX12_isTooFar (T := TX12) rfl (by decide) rfl (ctM_isTooFar μ24 (by rw [hm_μ24]; exact mD_MB h hok) (v := v23) (by omega) (by omega)) (by decide) rfl rfl rfl (Nat.le_of_ble_eq_true rfl) ?_
          refine aw_ifz_ne (tgt := 39) hO dX12_drawYear_30 rfl rfl (fun c30 => ?_) (fun c30 => ?_)
          · refine aw_iinc (ls' := [some (vR 0), some (vI (((k : Nat) : Int) + 1)), some (vI v23)]) hO dX12_drawYear_39 rfl rfl rfl rfl ?_
            refine aw_lsq (ls' := [some (vR 0), some (vI (((k + 1) : Nat) : Int)), some (vI v23)]) rfl ?_
            refine aw_goto (tgt := 2) hO dX12_drawYear_42 rfl ?_
            refine aw_fg (ls' := [some (vR 0), some (vI (((k + 1) : Nat) : Int)), none]) ⟨rfl, rfl, trivial⟩ ?_
            exact ih (k + 1) μ24 (by omega) (by rw [hm_μ24]; show _ = mD μ (walk1 μ (walkK μ (μ.1 17, μ.2.1) k)); unfold walk1; rw [if_neg (fun q => q.2 (by rw [← e_v23]; have c30b := c30; rw [hm_μ24, mD_17] at c30b; exact c30b))]) (walkK_ok h.1 h.1.now (k + 1))
          · refine aw_aload_n hO dX12_drawYear_33 rfl rfl ?_
            refine aw_iload_n hO dX12_drawYear_34 rfl rfl ?_
            refine aw_callVE (as := [vI v23]) (st := []) hO dX12_drawYear_35 rfl (lw_t7 67 rfl rfl) kX12_walkNow (T := TX12) rfl (by decide) rfl (ctM_walkNow μ24 (by rw [hm_μ24]; exact mD_MB h hok) (v := v23) (by omega) (by omega)) (by decide) rfl rfl rfl (Nat.le_of_ble_eq_true rfl) (fun v26 μ27 hq28 => ?_)
            obtain ⟨e_v26, e_μ27⟩ := hq28
            refine aw_pop hO dX12_drawYear_38 rfl rfl ?_
            refine aw_iinc (ls' := [some (vR 0), some (vI (((k : Nat) : Int) + 1)), some (vI v23)]) hO dX12_drawYear_39 rfl rfl rfl rfl ?_
            refine aw_lsq (ls' := [some (vR 0), some (vI (((k + 1) : Nat) : Int)), some (vI v23)]) rfl ?_
            refine aw_goto (tgt := 2) hO dX12_drawYear_42 rfl ?_
            refine aw_fg (ls' := [some (vR 0), some (vI (((k + 1) : Nat) : Int)), none]) ⟨rfl, rfl, trivial⟩ ?_
            exact ih (k + 1) μ27 (by omega) (by rw [e_μ27, hm_μ24, mD_row, mD_17, okW_mD, mD_nk (by decide)]; show _ = mD μ (walk1 μ (walkK μ (μ.1 17, μ.2.1) k)); unfold walk1; rw [if_pos ⟨by rw [← e_v23]; exact c22, by rw [← e_v23]; have c30b := c30; rw [hm_μ24, mD_17] at c30b; exact c30b⟩, ← e_v23]) (walkK_ok h.1 h.1.now (k + 1))
  refine aw_iconst hO dX12_drawYear_0 rfl ?_
  refine aw_istore_n (ls' := [some (vR 0), some (vI 0), none]) hO dX12_drawYear_1 rfl (Nat.le_of_ble_eq_true rfl) rfl rfl ?_
  refine aw_lsq (ls' := [some (vR 0), some (vI ((0 : Nat) : Int)), none]) rfl ?_
  exact lp 3 0 μ rfl (by show μ = mlong (mrow μ 17 (μ.1 17)) μ.2.1; rw [mrow_self]; rfl) h.1.now
