
/-! ## a year with its log; what is kept -/
def shlF (f : Nat → Int) (k : Nat) : Nat → Int := fun i => if 38 ≤ i ∧ i + 3 < 38 + k then f (i + 3) else f i
def addLog (f : Nat → Int) (ch br tm : Int) : Nat → Int := if f 37 = 60 then fu (fu (fu (shlF f 180) 215 ch) 216 br) 217 tm else fu (fu (fu (fu f (38 + 3 * (f 37).toNat) ch) (38 + 3 * (f 37).toNat + 1) br) (38 + 3 * (f 37).toNat + 2) tm) 37 (f 37 + 1)
theorem shlF_s {f : Nat → Int} {k : Nat} (hk : 3 ≤ k) : shlF f (k + 1) = fu (shlF f k) (38 + k - 3) (f (38 + k)) := by
  funext i
  show (if 38 ≤ i ∧ i + 3 < 38 + (k + 1) then f (i + 3) else f i) = if i = 38 + k - 3 then f (38 + k) else if 38 ≤ i ∧ i + 3 < 38 + k then f (i + 3) else f i
  by_cases q : i = 38 + k - 3
  · rw [if_pos (by omega), if_pos q, show i + 3 = 38 + k by omega]
  · rw [if_neg q]
    by_cases q2 : 38 ≤ i ∧ i + 3 < 38 + k
    · rw [if_pos q2, if_pos (by omega)]
    · rw [if_neg q2, if_neg (by omega)]
def passF (μ : Mm) : Nat → Int := addLog (liveF μ) (chM μ) (brM μ) (tmM μ)
theorem addLog_lt {f : Nat → Int} {ch br tm : Int} {i : Nat} (h : i < 37) : addLog f ch br tm i = f i := by
  unfold addLog
  split
  · rw [fu_ne (by omega), fu_ne (by omega), fu_ne (by omega)]
    unfold shlF
    rw [if_neg (by omega)]
  · rw [fu_ne (by omega), fu_ne (by omega), fu_ne (by omega), fu_ne (by omega)]
theorem addLog_37 {f : Nat → Int} {ch br tm : Int} (h : 0 ≤ f 37 ∧ f 37 ≤ 60) : 0 ≤ addLog f ch br tm 37 ∧ addLog f ch br tm 37 ≤ 60 := by
  unfold addLog
  split
  · rw [fu_ne (by omega), fu_ne (by omega), fu_ne (by omega)]
    unfold shlF
    rw [if_neg (by omega)]
    omega
  · rw [fu_eq]
    omega
theorem NowOK.lt {f g : Nat → Int} (h : NowOK f) (hg : ∀ i, i < 37 → g i = f i) (h37 : 0 ≤ g 37 ∧ g 37 ≤ 60) : NowOK g := by
  unfold NowOK at *
  refine ⟨fun p hp => by rw [hg _ (by omega)]; exact h.1 p hp, fun j hj => by rw [hg _ (by omega)]; exact h.2.1 j hj, fun p hp => by rw [hg _ (by omega)]; exact h.2.2.1 p hp, fun t ht => by rw [hg _ (by omega)]; exact h.2.2.2.1 t ht, ?_⟩
  rw [hg 29 (by omega), hg 30 (by omega), hg 31 (by omega), hg 32 (by omega), hg 33 (by omega), hg 34 (by omega), hg 35 (by omega), hg 36 (by omega)]
  have h2 := h.2.2.2.2
  exact ⟨h2.1, h2.2.1, h2.2.2.1, h2.2.2.2.1, h2.2.2.2.2.1, h2.2.2.2.2.2.1, h2.2.2.2.2.2.2.1, h2.2.2.2.2.2.2.2.1, h37⟩
theorem pass_ok {μ : Mm} (h : MB μ) (hy : μ.1 17 36 ≤ 1099) : NowOK (passF μ) := (live_ok h hy).lt (fun i hi => addLog_lt hi) (addLog_37 (live_ok h hy).rest.2.2.2.2.2.2.2.2)
theorem dX12_passYear_0 : decode cX12_passYear 0 = .ok (.aload_n 0, 1) := by decide +kernel
theorem dX12_passYear_1 : decode cX12_passYear 1 = .ok (.invokevirtual 310, 3) := by decide +kernel
theorem dX12_passYear_4 : decode cX12_passYear 4 = .ok (.aload_n 0, 1) := by decide +kernel
theorem dX12_passYear_5 : decode cX12_passYear 5 = .ok (.getfield 58, 3) := by decide +kernel
theorem dX12_passYear_8 : decode cX12_passYear 8 = .ok (.bipush 37, 2) := by decide +kernel
theorem dX12_passYear_10 : decode cX12_passYear 10 = .ok (.iaload, 1) := by decide +kernel
theorem dX12_passYear_11 : decode cX12_passYear 11 = .ok (.bipush 60, 2) := by decide +kernel
theorem dX12_passYear_13 : decode cX12_passYear 13 = .ok (.if_icmp .ne 49, 3) := by decide +kernel
theorem dX12_passYear_16 : decode cX12_passYear 16 = .ok (.iconst 3, 1) := by decide +kernel
theorem dX12_passYear_17 : decode cX12_passYear 17 = .ok (.istore_n 1, 1) := by decide +kernel
theorem dX12_passYear_18 : decode cX12_passYear 18 = .ok (.iload_n 1, 1) := by decide +kernel
theorem dX12_passYear_19 : decode cX12_passYear 19 = .ok (.sipush 180, 3) := by decide +kernel
theorem dX12_passYear_22 : decode cX12_passYear 22 = .ok (.if_icmp .ge 29, 3) := by decide +kernel
theorem dX12_passYear_25 : decode cX12_passYear 25 = .ok (.aload_n 0, 1) := by decide +kernel
theorem dX12_passYear_26 : decode cX12_passYear 26 = .ok (.getfield 58, 3) := by decide +kernel
theorem dX12_passYear_29 : decode cX12_passYear 29 = .ok (.bipush 38, 2) := by decide +kernel
theorem dX12_passYear_31 : decode cX12_passYear 31 = .ok (.iload_n 1, 1) := by decide +kernel
theorem dX12_passYear_32 : decode cX12_passYear 32 = .ok (.iadd, 1) := by decide +kernel
theorem dX12_passYear_33 : decode cX12_passYear 33 = .ok (.iconst 3, 1) := by decide +kernel
theorem dX12_passYear_34 : decode cX12_passYear 34 = .ok (.isub, 1) := by decide +kernel
theorem dX12_passYear_35 : decode cX12_passYear 35 = .ok (.aload_n 0, 1) := by decide +kernel
theorem dX12_passYear_36 : decode cX12_passYear 36 = .ok (.getfield 58, 3) := by decide +kernel
theorem dX12_passYear_39 : decode cX12_passYear 39 = .ok (.bipush 38, 2) := by decide +kernel
theorem dX12_passYear_41 : decode cX12_passYear 41 = .ok (.iload_n 1, 1) := by decide +kernel
theorem dX12_passYear_42 : decode cX12_passYear 42 = .ok (.iadd, 1) := by decide +kernel
theorem dX12_passYear_43 : decode cX12_passYear 43 = .ok (.iaload, 1) := by decide +kernel
theorem dX12_passYear_44 : decode cX12_passYear 44 = .ok (.iastore, 1) := by decide +kernel
theorem dX12_passYear_45 : decode cX12_passYear 45 = .ok (.iinc 1 1, 3) := by decide +kernel
theorem dX12_passYear_48 : decode cX12_passYear 48 = .ok (.goto (-30), 3) := by decide +kernel
theorem dX12_passYear_51 : decode cX12_passYear 51 = .ok (.aload_n 0, 1) := by decide +kernel
theorem dX12_passYear_52 : decode cX12_passYear 52 = .ok (.getfield 58, 3) := by decide +kernel
theorem dX12_passYear_55 : decode cX12_passYear 55 = .ok (.bipush 37, 2) := by decide +kernel
theorem dX12_passYear_57 : decode cX12_passYear 57 = .ok (.dup2, 1) := by decide +kernel
theorem dX12_passYear_58 : decode cX12_passYear 58 = .ok (.iaload, 1) := by decide +kernel
theorem dX12_passYear_59 : decode cX12_passYear 59 = .ok (.iconst 1, 1) := by decide +kernel
theorem dX12_passYear_60 : decode cX12_passYear 60 = .ok (.isub, 1) := by decide +kernel
theorem dX12_passYear_61 : decode cX12_passYear 61 = .ok (.iastore, 1) := by decide +kernel
theorem dX12_passYear_62 : decode cX12_passYear 62 = .ok (.bipush 38, 2) := by decide +kernel
theorem dX12_passYear_64 : decode cX12_passYear 64 = .ok (.iconst 3, 1) := by decide +kernel
theorem dX12_passYear_65 : decode cX12_passYear 65 = .ok (.aload_n 0, 1) := by decide +kernel
theorem dX12_passYear_66 : decode cX12_passYear 66 = .ok (.getfield 58, 3) := by decide +kernel
theorem dX12_passYear_69 : decode cX12_passYear 69 = .ok (.bipush 37, 2) := by decide +kernel
theorem dX12_passYear_71 : decode cX12_passYear 71 = .ok (.iaload, 1) := by decide +kernel
theorem dX12_passYear_72 : decode cX12_passYear 72 = .ok (.imul, 1) := by decide +kernel
theorem dX12_passYear_73 : decode cX12_passYear 73 = .ok (.iadd, 1) := by decide +kernel
theorem dX12_passYear_74 : decode cX12_passYear 74 = .ok (.istore_n 1, 1) := by decide +kernel
theorem dX12_passYear_75 : decode cX12_passYear 75 = .ok (.aload_n 0, 1) := by decide +kernel
theorem dX12_passYear_76 : decode cX12_passYear 76 = .ok (.getfield 58, 3) := by decide +kernel
theorem dX12_passYear_79 : decode cX12_passYear 79 = .ok (.iload_n 1, 1) := by decide +kernel
theorem dX12_passYear_80 : decode cX12_passYear 80 = .ok (.aload_n 0, 1) := by decide +kernel
theorem dX12_passYear_81 : decode cX12_passYear 81 = .ok (.getfield 298, 3) := by decide +kernel
theorem dX12_passYear_84 : decode cX12_passYear 84 = .ok (.iastore, 1) := by decide +kernel
theorem dX12_passYear_85 : decode cX12_passYear 85 = .ok (.aload_n 0, 1) := by decide +kernel
theorem dX12_passYear_86 : decode cX12_passYear 86 = .ok (.getfield 58, 3) := by decide +kernel
theorem dX12_passYear_89 : decode cX12_passYear 89 = .ok (.iload_n 1, 1) := by decide +kernel
theorem dX12_passYear_90 : decode cX12_passYear 90 = .ok (.iconst 1, 1) := by decide +kernel
theorem dX12_passYear_91 : decode cX12_passYear 91 = .ok (.iadd, 1) := by decide +kernel
theorem dX12_passYear_92 : decode cX12_passYear 92 = .ok (.aload_n 0, 1) := by decide +kernel
theorem dX12_passYear_93 : decode cX12_passYear 93 = .ok (.getfield 301, 3) := by decide +kernel
theorem dX12_passYear_96 : decode cX12_passYear 96 = .ok (.iastore, 1) := by decide +kernel
theorem dX12_passYear_97 : decode cX12_passYear 97 = .ok (.aload_n 0, 1) := by decide +kernel
theorem dX12_passYear_98 : decode cX12_passYear 98 = .ok (.getfield 58, 3) := by decide +kernel
theorem dX12_passYear_101 : decode cX12_passYear 101 = .ok (.iload_n 1, 1) := by decide +kernel
theorem dX12_passYear_102 : decode cX12_passYear 102 = .ok (.iconst 2, 1) := by decide +kernel
theorem dX12_passYear_103 : decode cX12_passYear 103 = .ok (.iadd, 1) := by decide +kernel
theorem dX12_passYear_104 : decode cX12_passYear 104 = .ok (.aload_n 0, 1) := by decide +kernel
theorem dX12_passYear_105 : decode cX12_passYear 105 = .ok (.getfield 307, 3) := by decide +kernel
theorem dX12_passYear_108 : decode cX12_passYear 108 = .ok (.iastore, 1) := by decide +kernel
theorem dX12_passYear_109 : decode cX12_passYear 109 = .ok (.aload_n 0, 1) := by decide +kernel
theorem dX12_passYear_110 : decode cX12_passYear 110 = .ok (.getfield 58, 3) := by decide +kernel
theorem dX12_passYear_113 : decode cX12_passYear 113 = .ok (.bipush 37, 2) := by decide +kernel
theorem dX12_passYear_115 : decode cX12_passYear 115 = .ok (.dup2, 1) := by decide +kernel
theorem dX12_passYear_116 : decode cX12_passYear 116 = .ok (.iaload, 1) := by decide +kernel
theorem dX12_passYear_117 : decode cX12_passYear 117 = .ok (.iconst 1, 1) := by decide +kernel
theorem dX12_passYear_118 : decode cX12_passYear 118 = .ok (.iadd, 1) := by decide +kernel
theorem dX12_passYear_119 : decode cX12_passYear 119 = .ok (.iastore, 1) := by decide +kernel
theorem dX12_passYear_120 : decode cX12_passYear 120 = .ok (.return_, 1) := by decide +kernel

def PvS (μ : Mm) (F : Nat → Int) (m : Mm) : Prop := (m.1 0 31 = chM μ ∧ m.1 0 32 = brM μ ∧ m.1 0 33 = tmM μ) ∧ m.1 17 = F ∧ OffL μ m
theorem PvS.wr {μ m : Mm} {F : Nat → Int} (h : PvS μ F m) (i : Nat) (v : Int) : PvS μ (fu F i v) (mst m 17 i v) := by
  refine ⟨⟨by rw [mst_nk (by decide)]; exact h.1.1, by rw [mst_nk (by decide)]; exact h.1.2.1, by rw [mst_nk (by decide)]; exact h.1.2.2⟩, ?_, fun k j a b c e => by rw [mst_nk c]; exact h.2.2.1 k j a b c e, h.2.2.2⟩
  rw [mst_row, mrow_at, h.2.1]
set_option maxHeartbeats 4000000 in
set_option maxRecDepth 100000 in
theorem ctM_passYear (μ : Mm) (h : MG μ) (hy : μ.1 17 36 ≤ 1099) : CtV PM 9 yX12_passYear cX12_passYear 2 none [vR 0] μ (fun m => m.1 17 = passF μ ∧ OffL μ m) := by
  refine ct_intro [some (vR 0), none] RX12 (by decide) rfl XM rfl (Nat.le_of_ble_eq_true rfl) (fun K hO => ?_)
  have hlo := (live_ok h.1 hy).rest
  have hl37 := hlo.2.2.2.2.2.2.2.2
  have tail : ∀ (m : Mm) (F : Nat → Int), PvS μ F m → 0 ≤ F 37 → F 37 ≤ 59 → passF μ = fu (fu (fu (fu F (38 + 3 * (F 37).toNat) (chM μ)) (38 + 3 * (F 37).toNat + 1) (brM μ)) (38 + 3 * (F 37).toNat + 2) (tmM μ)) 37 (F 37 + 1) → AW K 62 [some (vR 0), none] [] m := by
    intro m F hL_m h0 h59 hF
    refine aw_bipush hO dX12_passYear_62 rfl (by decide) (by decide) ?_
    refine aw_iconst hO dX12_passYear_64 rfl ?_
    refine aw_aload_n hO dX12_passYear_65 rfl rfl ?_
    refine gM_now hO dX12_passYear_66 rfl ?_
    refine aw_bipush hO dX12_passYear_69 rfl (by decide) (by decide) ?_
    refine aw_ialdn (N := 218) (i := 37) hO dX12_passYear_71 rfl (by decide) rfl (by decide) rfl (by decide) ?_
    refine aw_cg (congrFun hL_m.2.1 37) ?_
    refine aw_imul hO dX12_passYear_72 rfl ?_
    refine aw_iadd hO dX12_passYear_73 rfl ?_
    refine aw_istore_n (ls' := [some (vR 0), some (vI (38 + (3 * (F 37))))]) hO dX12_passYear_74 rfl (Nat.le_of_ble_eq_true rfl) rfl rfl ?_
    refine aw_aload_n hO dX12_passYear_75 rfl rfl ?_
    refine gM_now hO dX12_passYear_76 rfl ?_
    refine aw_iload_n hO dX12_passYear_79 rfl rfl ?_
    refine aw_aload_n hO dX12_passYear_80 rfl rfl ?_
    refine gM_chosen hO dX12_passYear_81 rfl ?_
    refine aw_cg hL_m.1.1 ?_
    refine aw_iastn (N := 218) (i := (38 + 3 * (F 37).toNat)) hO dX12_passYear_84 rfl (by decide) rfl (by decide) (by omega) (by omega) ?_
    refine aw_mm (fun μ1 e_μ1 => ?_)
    have hL_μ1 : PvS μ (fu F (38 + 3 * (F 37).toNat) (chM μ)) μ1 := by rw [e_μ1]; exact hL_m.wr _ _
    refine aw_aload_n hO dX12_passYear_85 rfl rfl ?_
    refine gM_now hO dX12_passYear_86 rfl ?_
    refine aw_iload_n hO dX12_passYear_89 rfl rfl ?_
    refine aw_iconst hO dX12_passYear_90 rfl ?_
    refine aw_iadd hO dX12_passYear_91 rfl ?_
    refine aw_aload_n hO dX12_passYear_92 rfl rfl ?_
    refine gM_byRest hO dX12_passYear_93 rfl ?_
    refine aw_cg hL_μ1.1.2.1 ?_
    refine aw_iastn (N := 218) (i := ((38 + 3 * (F 37).toNat) + 1)) hO dX12_passYear_96 rfl (by decide) rfl (by decide) (by omega) (by omega) ?_
    refine aw_mm (fun μ2 e_μ2 => ?_)
    have hL_μ2 : PvS μ (fu (fu F (38 + 3 * (F 37).toNat) (chM μ)) ((38 + 3 * (F 37).toNat) + 1) (brM μ)) μ2 := by rw [e_μ2]; exact hL_μ1.wr _ _
    refine aw_aload_n hO dX12_passYear_97 rfl rfl ?_
    refine gM_now hO dX12_passYear_98 rfl ?_
    refine aw_iload_n hO dX12_passYear_101 rfl rfl ?_
    refine aw_iconst hO dX12_passYear_102 rfl ?_
    refine aw_iadd hO dX12_passYear_103 rfl ?_
    refine aw_aload_n hO dX12_passYear_104 rfl rfl ?_
    refine gM_troublesMet hO dX12_passYear_105 rfl ?_
    refine aw_cg hL_μ2.1.2.2 ?_
    refine aw_iastn (N := 218) (i := ((38 + 3 * (F 37).toNat) + 2)) hO dX12_passYear_108 rfl (by decide) rfl (by decide) (by omega) (by omega) ?_
    refine aw_mm (fun μ3 e_μ3 => ?_)
    have hL_μ3 : PvS μ (fu (fu (fu F (38 + 3 * (F 37).toNat) (chM μ)) ((38 + 3 * (F 37).toNat) + 1) (brM μ)) ((38 + 3 * (F 37).toNat) + 2) (tmM μ)) μ3 := by rw [e_μ3]; exact hL_μ2.wr _ _
    refine aw_aload_n hO dX12_passYear_109 rfl rfl ?_
    refine gM_now hO dX12_passYear_110 rfl ?_
    refine aw_bipush hO dX12_passYear_113 rfl (by decide) (by decide) ?_
    refine aw_dup2 hO dX12_passYear_115 rfl rfl rfl ?_
    refine aw_ialdn (N := 218) (i := 37) hO dX12_passYear_116 rfl (by decide) rfl (by decide) rfl (by decide) ?_
    refine aw_cg (congrFun hL_μ3.2.1 37) ?_
    refine aw_cg (show ((fu (fu (fu F (38 + 3 * (F 37).toNat) (chM μ)) ((38 + 3 * (F 37).toNat) + 1) (brM μ)) ((38 + 3 * (F 37).toNat) + 2) (tmM μ)) 37) = F 37 by rw [fu_ne (by omega), fu_ne (by omega), fu_ne (by omega)]) ?_
    refine aw_iconst hO dX12_passYear_117 rfl ?_
    refine aw_iadd hO dX12_passYear_118 rfl ?_
    refine aw_iastn (N := 218) (i := 37) hO dX12_passYear_119 rfl (by decide) rfl (by decide) rfl (by decide) ?_
    refine aw_mm (fun μ4 e_μ4 => ?_)
    have hL_μ4 : PvS μ (fu (fu (fu (fu F (38 + 3 * (F 37).toNat) (chM μ)) ((38 + 3 * (F 37).toNat) + 1) (brM μ)) ((38 + 3 * (F 37).toNat) + 2) (tmM μ)) 37 ((F 37) + 1)) μ4 := by rw [e_μ4]; exact hL_μ3.wr _ _
    refine aw_vret hO dX12_passYear_120 ?_
    exact ⟨rfl, by rw [hL_μ4.2.1, hF], hL_μ4.2.2⟩
  have sh : liveF μ 37 = 60 → ∀ m1 : Mm, PvS μ (liveF μ) m1 → AW K 18 [some (vR 0), some (vI ((3 : Nat) : Int))] [] m1 := by
    intro c13 m1 hL_m1
    have lp : ∀ (c : Nat) (k : Nat) (m2 : Mm), (k + c = 180) → (3 ≤ k) → (PvS μ (shlF (liveF μ) k) m2) → AW K 18 [some (vR 0), some (vI ((k : Nat) : Int))] [] m2 := by
      intro c
      induction c with
      | zero =>
        intro k m2 hk hk3 hL_m2
        refine aw_iload_n hO dX12_passYear_18 rfl rfl ?_
        refine aw_sipush hO dX12_passYear_19 rfl (by decide) (by decide) ?_
        refine aw_icmp_ge (tgt := 51) hO dX12_passYear_22 rfl rfl (inRn (by omega)) (inRlit _) (fun c22 => ?_) (fun c22 => ?_)
        · refine aw_aload_n hO dX12_passYear_51 rfl rfl ?_
          refine gM_now hO dX12_passYear_52 rfl ?_
          refine aw_bipush hO dX12_passYear_55 rfl (by decide) (by decide) ?_
          refine aw_dup2 hO dX12_passYear_57 rfl rfl rfl ?_
          refine aw_ialdn (N := 218) (i := 37) hO dX12_passYear_58 rfl (by decide) rfl (by decide) rfl (by decide) ?_
          refine aw_cg (congrFun hL_m2.2.1 37) ?_
          refine aw_cg (show shlF (liveF μ) k 37 = 60 by unfold shlF; rw [if_neg (by omega)]; exact c13) ?_
          refine aw_iconst hO dX12_passYear_59 rfl ?_
          refine aw_isub hO dX12_passYear_60 rfl ?_
          refine aw_iastn (N := 218) (i := 37) hO dX12_passYear_61 rfl (by decide) rfl (by decide) rfl (by decide) ?_
          refine aw_mm (fun μ5 e_μ5 => ?_)
          have hL_μ5 : PvS μ (fu (shlF (liveF μ) k) 37 (60 - 1)) μ5 := by rw [e_μ5]; exact hL_m2.wr _ _
          refine aw_fg (ls' := [some (vR 0), none]) ⟨rfl, trivial⟩ ?_
          exact tail μ5 _ hL_μ5 (by rw [fu_eq]; omega) (by rw [fu_eq]; omega) (by unfold passF addLog; rw [if_pos c13, fu_eq, show k = 180 by omega, show ((60 : Int) - 1).toNat = 59 from rfl]; funext i; unfold fu; by_cases q : i = 37 <;> simp [q, shlF] <;> omega)
        · exact absurd c22 (by omega)
      | succ c ih =>
        intro k m2 hk hk3 hL_m2
        refine aw_iload_n hO dX12_passYear_18 rfl rfl ?_
        refine aw_sipush hO dX12_passYear_19 rfl (by decide) (by decide) ?_
        refine aw_icmp_ge (tgt := 51) hO dX12_passYear_22 rfl rfl (inRn (by omega)) (inRlit _) (fun c22 => ?_) (fun c22 => ?_)
        · exact absurd c22 (by omega)
        · refine aw_aload_n hO dX12_passYear_25 rfl rfl ?_
          refine gM_now hO dX12_passYear_26 rfl ?_
          refine aw_bipush hO dX12_passYear_29 rfl (by decide) (by decide) ?_
          refine aw_iload_n hO dX12_passYear_31 rfl rfl ?_
          refine aw_iadd hO dX12_passYear_32 rfl ?_
          refine aw_iconst hO dX12_passYear_33 rfl ?_
          refine aw_isub hO dX12_passYear_34 rfl ?_
          refine aw_aload_n hO dX12_passYear_35 rfl rfl ?_
          refine gM_now hO dX12_passYear_36 rfl ?_
          refine aw_bipush hO dX12_passYear_39 rfl (by decide) (by decide) ?_
          refine aw_iload_n hO dX12_passYear_41 rfl rfl ?_
          refine aw_iadd hO dX12_passYear_42 rfl ?_
          refine aw_ialdn (N := 218) (i := (38 + k)) hO dX12_passYear_43 rfl (by decide) rfl (by decide) (by omega) (by omega) ?_
          refine aw_cg (congrFun hL_m2.2.1 (38 + k)) ?_
          refine aw_cg (show shlF (liveF μ) k (38 + k) = liveF μ (38 + k) by unfold shlF; rw [if_neg (by omega)]) ?_
          refine aw_iastn (N := 218) (i := (38 + k - 3)) hO dX12_passYear_44 rfl (by decide) rfl (by decide) (by omega) (by omega) ?_
          refine aw_mm (fun μ6 e_μ6 => ?_)
          have hL_μ6 : PvS μ (fu (shlF (liveF μ) k) (38 + k - 3) (liveF μ (38 + k))) μ6 := by rw [e_μ6]; exact hL_m2.wr _ _
          refine aw_iinc (ls' := [some (vR 0), some (vI (((k : Nat) : Int) + 1))]) hO dX12_passYear_45 rfl rfl rfl rfl ?_
          refine aw_lsq (ls' := [some (vR 0), some (vI (((k + 1) : Nat) : Int))]) rfl ?_
          refine aw_goto (tgt := 18) hO dX12_passYear_48 rfl ?_
          refine aw_lsq (ls' := [some (vR 0), some (vI (((k + 1) : Nat) : Int))]) rfl ?_
          exact ih (k + 1) μ6 (by omega) (by omega) (by rw [shlF_s hk3]; exact hL_μ6)
    exact lp 177 3 m1 rfl (by omega) (by rw [show shlF (liveF μ) 3 = liveF μ from by funext i; unfold shlF; rw [if_neg (by omega)]]; exact hL_m1)
  refine aw_aload_n hO dX12_passYear_0 rfl rfl ?_
  refine aw_callVV (as := []) (st := []) hO dX12_passYear_1 rfl (lw_t7 100 rfl rfl) kX12_live (T := TX12) rfl (by decide) rfl (ctM_live μ h hy) (by decide) rfl rfl rfl (Nat.le_of_ble_eq_true rfl) (fun μ8 hq9 => ?_)
  have hL_μ8 : PvS μ (liveF μ) μ8 := hq9
  refine aw_aload_n hO dX12_passYear_4 rfl rfl ?_
  refine gM_now hO dX12_passYear_5 rfl ?_
  refine aw_bipush hO dX12_passYear_8 rfl (by decide) (by decide) ?_
  refine aw_ialdn (N := 218) (i := 37) hO dX12_passYear_10 rfl (by decide) rfl (by decide) rfl (by decide) ?_
  refine aw_cg (congrFun hL_μ8.2.1 37) ?_
  refine aw_bipush hO dX12_passYear_11 rfl (by decide) (by decide) ?_
  refine aw_icmp_ne (tgt := 62) hO dX12_passYear_13 rfl rfl ⟨by omega, by omega⟩ (inRlit _) (fun c13 => ?_) (fun c13 => ?_)
  · exact tail μ8 _ hL_μ8 hl37.1 (by omega) (by unfold passF addLog; rw [if_neg c13])
  · refine aw_iconst hO dX12_passYear_16 rfl ?_
    refine aw_istore_n (ls' := [some (vR 0), some (vI 3)]) hO dX12_passYear_17 rfl (Nat.le_of_ble_eq_true rfl) rfl rfl ?_
    refine aw_lsq (ls' := [some (vR 0), some (vI ((3 : Nat) : Int))]) rfl ?_
    exact sh c13 μ8 hL_μ8

/-- what is kept of earlier states: the row, how many -/
def kepG (kp : Nat → Int) (a : Int) : Nat → Int := if a = 40 then fun i => if i < 8502 then kp (i + 218) else kp i else kp
def kepA (a : Int) : Int := if a = 40 then 39 else a
def kepF (kp f : Nat → Int) (a : Int) : Nat → Int := fun i => if 218 * (kepA a).toNat ≤ i ∧ i < 218 * (kepA a).toNat + 218 then f (i - 218 * (kepA a).toNat) else kepG kp a i
def shK (kp : Nat → Int) (k : Nat) : Nat → Int := fun i => if i + 218 < k then kp (i + 218) else kp i
theorem shK_s {kp : Nat → Int} {k : Nat} (hk : 218 ≤ k) : shK kp (k + 1) = fu (shK kp k) (k - 218) (kp k) := by
  funext i
  show (if i + 218 < k + 1 then kp (i + 218) else kp i) = if i = k - 218 then kp k else if i + 218 < k then kp (i + 218) else kp i
  by_cases q : i = k - 218
  · rw [if_pos (by omega), if_pos q, show i + 218 = k by omega]
  · rw [if_neg q]
    by_cases q2 : i + 218 < k
    · rw [if_pos q2, if_pos (by omega)]
    · rw [if_neg q2, if_neg (by omega)]
def cpK (g f : Nat → Int) (a k : Nat) : Nat → Int := fun i => if 218 * a ≤ i ∧ i < 218 * a + k then f (i - 218 * a) else g i
theorem cpK_s {g f : Nat → Int} {a k : Nat} : cpK g f a (k + 1) = fu (cpK g f a k) (218 * a + k) (f k) := by
  funext i
  show (if 218 * a ≤ i ∧ i < 218 * a + (k + 1) then f (i - 218 * a) else g i) = if i = 218 * a + k then f k else if 218 * a ≤ i ∧ i < 218 * a + k then f (i - 218 * a) else g i
  by_cases q : i = 218 * a + k
  · rw [if_pos (by omega), if_pos q, show i - 218 * a = k by omega]
  · rw [if_neg q]
    by_cases q2 : 218 * a ≤ i ∧ i < 218 * a + k
    · rw [if_pos q2, if_pos (by omega)]
    · rw [if_neg q2, if_neg (by omega)]
theorem dX12_keep_0 : decode cX12_keep 0 = .ok (.aload_n 0, 1) := by decide +kernel
theorem dX12_keep_1 : decode cX12_keep 1 = .ok (.getfield 251, 3) := by decide +kernel
theorem dX12_keep_4 : decode cX12_keep 4 = .ok (.bipush 40, 2) := by decide +kernel
theorem dX12_keep_6 : decode cX12_keep 6 = .ok (.if_icmp .ne 46, 3) := by decide +kernel
theorem dX12_keep_9 : decode cX12_keep 9 = .ok (.sipush 218, 3) := by decide +kernel
theorem dX12_keep_12 : decode cX12_keep 12 = .ok (.istore_n 1, 1) := by decide +kernel
theorem dX12_keep_13 : decode cX12_keep 13 = .ok (.iload_n 1, 1) := by decide +kernel
theorem dX12_keep_14 : decode cX12_keep 14 = .ok (.sipush 8720, 3) := by decide +kernel
theorem dX12_keep_17 : decode cX12_keep 17 = .ok (.if_icmp .ge 25, 3) := by decide +kernel
theorem dX12_keep_20 : decode cX12_keep 20 = .ok (.aload_n 0, 1) := by decide +kernel
theorem dX12_keep_21 : decode cX12_keep 21 = .ok (.getfield 71, 3) := by decide +kernel
theorem dX12_keep_24 : decode cX12_keep 24 = .ok (.iload_n 1, 1) := by decide +kernel
theorem dX12_keep_25 : decode cX12_keep 25 = .ok (.sipush 218, 3) := by decide +kernel
theorem dX12_keep_28 : decode cX12_keep 28 = .ok (.isub, 1) := by decide +kernel
theorem dX12_keep_29 : decode cX12_keep 29 = .ok (.aload_n 0, 1) := by decide +kernel
theorem dX12_keep_30 : decode cX12_keep 30 = .ok (.getfield 71, 3) := by decide +kernel
theorem dX12_keep_33 : decode cX12_keep 33 = .ok (.iload_n 1, 1) := by decide +kernel
theorem dX12_keep_34 : decode cX12_keep 34 = .ok (.iaload, 1) := by decide +kernel
theorem dX12_keep_35 : decode cX12_keep 35 = .ok (.iastore, 1) := by decide +kernel
theorem dX12_keep_36 : decode cX12_keep 36 = .ok (.iinc 1 1, 3) := by decide +kernel
theorem dX12_keep_39 : decode cX12_keep 39 = .ok (.goto (-26), 3) := by decide +kernel
theorem dX12_keep_42 : decode cX12_keep 42 = .ok (.aload_n 0, 1) := by decide +kernel
theorem dX12_keep_43 : decode cX12_keep 43 = .ok (.dup, 1) := by decide +kernel
theorem dX12_keep_44 : decode cX12_keep 44 = .ok (.getfield 251, 3) := by decide +kernel
theorem dX12_keep_47 : decode cX12_keep 47 = .ok (.iconst 1, 1) := by decide +kernel
theorem dX12_keep_48 : decode cX12_keep 48 = .ok (.isub, 1) := by decide +kernel
theorem dX12_keep_49 : decode cX12_keep 49 = .ok (.putfield 251, 3) := by decide +kernel
theorem dX12_keep_52 : decode cX12_keep 52 = .ok (.iconst 0, 1) := by decide +kernel
theorem dX12_keep_53 : decode cX12_keep 53 = .ok (.istore_n 1, 1) := by decide +kernel
theorem dX12_keep_54 : decode cX12_keep 54 = .ok (.iload_n 1, 1) := by decide +kernel
theorem dX12_keep_55 : decode cX12_keep 55 = .ok (.sipush 218, 3) := by decide +kernel
theorem dX12_keep_58 : decode cX12_keep 58 = .ok (.if_icmp .ge 30, 3) := by decide +kernel
theorem dX12_keep_61 : decode cX12_keep 61 = .ok (.aload_n 0, 1) := by decide +kernel
theorem dX12_keep_62 : decode cX12_keep 62 = .ok (.getfield 71, 3) := by decide +kernel
theorem dX12_keep_65 : decode cX12_keep 65 = .ok (.sipush 218, 3) := by decide +kernel
theorem dX12_keep_68 : decode cX12_keep 68 = .ok (.aload_n 0, 1) := by decide +kernel
theorem dX12_keep_69 : decode cX12_keep 69 = .ok (.getfield 251, 3) := by decide +kernel
theorem dX12_keep_72 : decode cX12_keep 72 = .ok (.imul, 1) := by decide +kernel
theorem dX12_keep_73 : decode cX12_keep 73 = .ok (.iload_n 1, 1) := by decide +kernel
theorem dX12_keep_74 : decode cX12_keep 74 = .ok (.iadd, 1) := by decide +kernel
theorem dX12_keep_75 : decode cX12_keep 75 = .ok (.aload_n 0, 1) := by decide +kernel
theorem dX12_keep_76 : decode cX12_keep 76 = .ok (.getfield 58, 3) := by decide +kernel
theorem dX12_keep_79 : decode cX12_keep 79 = .ok (.iload_n 1, 1) := by decide +kernel
theorem dX12_keep_80 : decode cX12_keep 80 = .ok (.iaload, 1) := by decide +kernel
theorem dX12_keep_81 : decode cX12_keep 81 = .ok (.iastore, 1) := by decide +kernel
theorem dX12_keep_82 : decode cX12_keep 82 = .ok (.iinc 1 1, 3) := by decide +kernel
theorem dX12_keep_85 : decode cX12_keep 85 = .ok (.goto (-31), 3) := by decide +kernel
theorem dX12_keep_88 : decode cX12_keep 88 = .ok (.aload_n 0, 1) := by decide +kernel
theorem dX12_keep_89 : decode cX12_keep 89 = .ok (.dup, 1) := by decide +kernel
theorem dX12_keep_90 : decode cX12_keep 90 = .ok (.getfield 251, 3) := by decide +kernel
theorem dX12_keep_93 : decode cX12_keep 93 = .ok (.iconst 1, 1) := by decide +kernel
theorem dX12_keep_94 : decode cX12_keep 94 = .ok (.iadd, 1) := by decide +kernel
theorem dX12_keep_95 : decode cX12_keep 95 = .ok (.putfield 251, 3) := by decide +kernel
theorem dX12_keep_98 : decode cX12_keep 98 = .ok (.return_, 1) := by decide +kernel
set_option maxHeartbeats 4000000 in
set_option maxRecDepth 100000 in
theorem ctM_keep (μ : Mm) (ha : 0 ≤ μ.1 0 35) (ha2 : μ.1 0 35 ≤ 40) : CtV PM 0 yX12_keep cX12_keep 2 none [vR 0] μ (fun m => m = mst (mrow μ 19 (kepF (μ.1 19) (μ.1 17) (μ.1 0 35))) 0 35 (kepA (μ.1 0 35) + 1)) := by
  refine ct_intro [some (vR 0), none] RX12 (by decide) rfl XM rfl (Nat.le_of_ble_eq_true rfl) (fun K hO => ?_)
  have half : ∀ (g : Nat → Int) (a : Nat) (m1 : Mm), a < 40 → m1 = mst (mrow μ 19 g) 0 35 (a : Int) → kepF (μ.1 19) (μ.1 17) (μ.1 0 35) = cpK g (μ.1 17) a 218 → kepA (μ.1 0 35) = a → AW K 52 [some (vR 0), none] [] m1 := by
    intro g a m1 ha hm1 hkf hka
    have lp : ∀ (c : Nat) (k : Nat) (m : Mm), (k + c = 218) → (m = mst (mrow μ 19 (cpK g (μ.1 17) a k)) 0 35 (a : Int)) → AW K 54 [some (vR 0), some (vI ((k : Nat) : Int))] [] m := by
      intro c
      induction c with
      | zero =>
        intro k m hk hm
        refine aw_iload_n hO dX12_keep_54 rfl rfl ?_
        refine aw_sipush hO dX12_keep_55 rfl (by decide) (by decide) ?_
        refine aw_icmp_ge (tgt := 88) hO dX12_keep_58 rfl rfl (inRn (by omega)) (inRlit _) (fun c58 => ?_) (fun c58 => ?_)
        · refine aw_aload_n hO dX12_keep_88 rfl rfl ?_
          refine aw_dup hO dX12_keep_89 rfl rfl ?_
          refine gM_acts hO dX12_keep_90 rfl ?_
          refine aw_cg (show m.1 0 35 = (a : Int) by rw [hm, mst_eq]) ?_
          refine aw_iconst hO dX12_keep_93 rfl ?_
          refine aw_iadd hO dX12_keep_94 rfl ?_
          refine pM_acts hO dX12_keep_95 rfl ?_
          refine aw_mm (fun μ1 e_μ1 => ?_)
          refine aw_vret hO dX12_keep_98 ?_
          exact ⟨rfl, by rw [e_μ1, hm, hkf, hka, show k = 218 by omega]; unfold mst mrow; refine Prod.ext (funext fun k' => funext fun i' => ?_) rfl; simp only; by_cases q : k' = 0 ∧ i' = 35 <;> simp [q]⟩
        · exact absurd c58 (by omega)
      | succ c ih =>
        intro k m hk hm
        refine aw_iload_n hO dX12_keep_54 rfl rfl ?_
        refine aw_sipush hO dX12_keep_55 rfl (by decide) (by decide) ?_
        refine aw_icmp_ge (tgt := 88) hO dX12_keep_58 rfl rfl (inRn (by omega)) (inRlit _) (fun c58 => ?_) (fun c58 => ?_)
        · exact absurd c58 (by omega)
        · refine aw_aload_n hO dX12_keep_61 rfl rfl ?_
          refine gM_kept hO dX12_keep_62 rfl ?_
          refine aw_sipush hO dX12_keep_65 rfl (by decide) (by decide) ?_
          refine aw_aload_n hO dX12_keep_68 rfl rfl ?_
          refine gM_acts hO dX12_keep_69 rfl ?_
          refine aw_cg (show m.1 0 35 = (a : Int) by rw [hm, mst_eq]) ?_
          refine aw_imul hO dX12_keep_72 rfl ?_
          refine aw_iload_n hO dX12_keep_73 rfl rfl ?_
          refine aw_iadd hO dX12_keep_74 rfl ?_
          refine aw_aload_n hO dX12_keep_75 rfl rfl ?_
          refine gM_now hO dX12_keep_76 rfl ?_
          refine aw_iload_n hO dX12_keep_79 rfl rfl ?_
          refine aw_ialdn (N := 218) (i := k) hO dX12_keep_80 rfl (by decide) rfl (by decide) (by omega) (by omega) ?_
          refine aw_cg (show m.1 17 k = μ.1 17 k by rw [hm, mst_nk (by decide), mrow_nk (by decide)]) ?_
          refine aw_iastn (N := 8720) (i := (218 * a + k)) hO dX12_keep_81 rfl (by decide) rfl (by decide) (by omega) (by omega) ?_
          refine aw_mm (fun μ2 e_μ2 => ?_)
          refine aw_iinc (ls' := [some (vR 0), some (vI (((k : Nat) : Int) + 1))]) hO dX12_keep_82 rfl rfl rfl rfl ?_
          refine aw_lsq (ls' := [some (vR 0), some (vI (((k + 1) : Nat) : Int))]) rfl ?_
          refine aw_goto (tgt := 54) hO dX12_keep_85 rfl ?_
          refine aw_lsq (ls' := [some (vR 0), some (vI (((k + 1) : Nat) : Int))]) rfl ?_
          exact ih (k + 1) μ2 (by omega) (by rw [e_μ2, hm, cpK_s, ← mst_mrow]; unfold mst; refine Prod.ext (funext fun k' => funext fun i' => ?_) rfl; simp only; by_cases q : k' = 19 ∧ i' = 218 * a + k <;> by_cases q2 : k' = 0 ∧ i' = 35 <;> simp [q, q2] <;> omega)
    refine aw_iconst hO dX12_keep_52 rfl ?_
    refine aw_istore_n (ls' := [some (vR 0), some (vI 0)]) hO dX12_keep_53 rfl (Nat.le_of_ble_eq_true rfl) rfl rfl ?_
    refine aw_lsq (ls' := [some (vR 0), some (vI ((0 : Nat) : Int))]) rfl ?_
    exact lp 218 0 m1 rfl (by rw [hm1, show cpK g (μ.1 17) a 0 = g from by funext i; unfold cpK; rw [if_neg (by omega)]])
  have sh : μ.1 0 35 = 40 → AW K 13 [some (vR 0), some (vI ((218 : Nat) : Int))] [] μ := by
    intro c6
    have lp : ∀ (c : Nat) (k : Nat) (m : Mm), (k + c = 8720) → (218 ≤ k) → (m = mrow μ 19 (shK (μ.1 19) k)) → AW K 13 [some (vR 0), some (vI ((k : Nat) : Int))] [] m := by
      intro c
      induction c with
      | zero =>
        intro k m hk hk2 hm
        refine aw_iload_n hO dX12_keep_13 rfl rfl ?_
        refine aw_sipush hO dX12_keep_14 rfl (by decide) (by decide) ?_
        refine aw_icmp_ge (tgt := 42) hO dX12_keep_17 rfl rfl (inRn (by omega)) (inRlit _) (fun c17 => ?_) (fun c17 => ?_)
        · refine aw_aload_n hO dX12_keep_42 rfl rfl ?_
          refine aw_dup hO dX12_keep_43 rfl rfl ?_
          refine gM_acts hO dX12_keep_44 rfl ?_
          refine aw_cg (show m.1 0 35 = 40 by rw [hm, mrow_nk (by decide)]; exact c6) ?_
          refine aw_iconst hO dX12_keep_47 rfl ?_
          refine aw_isub hO dX12_keep_48 rfl ?_
          refine pM_acts hO dX12_keep_49 rfl ?_
          refine aw_mm (fun μ3 e_μ3 => ?_)
          refine aw_fg (ls' := [some (vR 0), none]) ⟨rfl, trivial⟩ ?_
          exact half (shK (μ.1 19) k) 39 μ3 (by omega) (by rw [e_μ3, hm]; rfl) (by unfold kepF kepG kepA; rw [if_pos c6, if_pos c6]; funext i; show _ = cpK _ _ _ _ i; unfold cpK shK; rw [show k = 8720 by omega]; rw [show (39 : Int).toNat = 39 from rfl]; by_cases q : 218 * 39 ≤ i ∧ i < 218 * 39 + 218; (rw [if_pos q, if_pos q]); (rw [if_neg q, if_neg q]; by_cases q2 : i < 8502; (rw [if_pos q2, if_pos (by omega)]); (rw [if_neg q2, if_neg (by omega)]))) (by unfold kepA; rw [if_pos c6]; rfl)
        · exact absurd c17 (by omega)
      | succ c ih =>
        intro k m hk hk2 hm
        refine aw_iload_n hO dX12_keep_13 rfl rfl ?_
        refine aw_sipush hO dX12_keep_14 rfl (by decide) (by decide) ?_
        refine aw_icmp_ge (tgt := 42) hO dX12_keep_17 rfl rfl (inRn (by omega)) (inRlit _) (fun c17 => ?_) (fun c17 => ?_)
        · exact absurd c17 (by omega)
        · refine aw_aload_n hO dX12_keep_20 rfl rfl ?_
          refine gM_kept hO dX12_keep_21 rfl ?_
          refine aw_iload_n hO dX12_keep_24 rfl rfl ?_
          refine aw_sipush hO dX12_keep_25 rfl (by decide) (by decide) ?_
          refine aw_isub hO dX12_keep_28 rfl ?_
          refine aw_aload_n hO dX12_keep_29 rfl rfl ?_
          refine gM_kept hO dX12_keep_30 rfl ?_
          refine aw_iload_n hO dX12_keep_33 rfl rfl ?_
          refine aw_ialdn (N := 8720) (i := k) hO dX12_keep_34 rfl (by decide) rfl (by decide) (by omega) (by omega) ?_
          refine aw_cg (show m.1 19 k = μ.1 19 k by rw [hm, mrow_at]; unfold shK; rw [if_neg (by omega)]) ?_
          refine aw_iastn (N := 8720) (i := (k - 218)) hO dX12_keep_35 rfl (by decide) rfl (by decide) (by omega) (by omega) ?_
          refine aw_mm (fun μ4 e_μ4 => ?_)
          refine aw_iinc (ls' := [some (vR 0), some (vI (((k : Nat) : Int) + 1))]) hO dX12_keep_36 rfl rfl rfl rfl ?_
          refine aw_lsq (ls' := [some (vR 0), some (vI (((k + 1) : Nat) : Int))]) rfl ?_
          refine aw_goto (tgt := 13) hO dX12_keep_39 rfl ?_
          refine aw_lsq (ls' := [some (vR 0), some (vI (((k + 1) : Nat) : Int))]) rfl ?_
          exact ih (k + 1) μ4 (by omega) (by omega) (by rw [e_μ4, hm, mst_mrow, shK_s hk2])
    exact lp 8502 218 μ rfl (by omega) (by rw [show shK (μ.1 19) 218 = μ.1 19 from by funext i; unfold shK; rw [if_neg (by omega)], mrow_self])
  refine aw_aload_n hO dX12_keep_0 rfl rfl ?_
  refine gM_acts hO dX12_keep_1 rfl ?_
  refine aw_bipush hO dX12_keep_4 rfl (by decide) (by decide) ?_
  refine aw_icmp_ne (tgt := 52) hO dX12_keep_6 rfl rfl ⟨by omega, by omega⟩ (inRlit _) (fun c6 => ?_) (fun c6 => ?_)
  · exact half (μ.1 19) (μ.1 0 35).toNat μ (by omega) (by rw [mrow_self, Int.toNat_of_nonneg (by omega)]; unfold mst; refine Prod.ext (funext fun k' => funext fun i' => ?_) rfl; simp only; by_cases q : k' = 0 ∧ i' = 35 <;> simp [q]) (by unfold kepF kepG kepA; rw [if_neg c6, if_neg c6]; rfl) (by unfold kepA; rw [if_neg c6]; omega)
  · refine aw_sipush hO dX12_keep_9 rfl (by decide) (by decide) ?_
    refine aw_istore_n (ls' := [some (vR 0), some (vI 218)]) hO dX12_keep_12 rfl (Nat.le_of_ble_eq_true rfl) rfl rfl ?_
    refine aw_lsq (ls' := [some (vR 0), some (vI ((218 : Nat) : Int))]) rfl ?_
    exact sh c6
