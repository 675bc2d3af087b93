/-! ## guesses: which two to show -/
/-- who of two is picked by likings L: 1 the lower, -1 the other -/
def gP (ν : Mm) (a b L : Nat) : Int := if tapM ν L b ≤ tapM ν L a then 1 else -1
theorem gP_1 (ν : Mm) (a b L : Nat) : -1 ≤ gP ν a b L ∧ gP ν a b L ≤ 1 := by unfold gP; split <;> omega
def pS (k _i : Nat) : Prop := k = 83 ∨ k = 84
theorem JR0.fp {μ m ν : Mm} (h : JR0 μ ν) (hF : Fr pS μ m) : JR0 m ν := h.fg (hF.mono (fun k i e => by unfold pS at e; unfold gS; omega))
/-- the balance of each pair, after i of the likings -/
def BL (ν μ : Mm) (D : Nat → Nat → Nat) (m : Mm) : Prop := ∀ a b : Nat, a < b → (b : Int) < ν.1 0 25 → m.1 84 (6 * a + b) = sumF (fun j => gP ν a b (μ.1 82 j).toNat) (D a b)
theorem dX2_weighPairs_0 : decode cX2_weighPairs 0 = .ok (.aload_n 0, 1) := by decide +kernel
theorem dX2_weighPairs_1 : decode cX2_weighPairs 1 = .ok (.getfield 18, 3) := by decide +kernel
theorem dX2_weighPairs_4 : decode cX2_weighPairs 4 = .ok (.iconst 0, 1) := by decide +kernel
theorem dX2_weighPairs_5 : decode cX2_weighPairs 5 = .ok (.invokestatic 62, 3) := by decide +kernel
theorem dX2_weighPairs_8 : decode cX2_weighPairs 8 = .ok (.iconst 0, 1) := by decide +kernel
theorem dX2_weighPairs_9 : decode cX2_weighPairs 9 = .ok (.istore_n 1, 1) := by decide +kernel
theorem dX2_weighPairs_10 : decode cX2_weighPairs 10 = .ok (.iload_n 1, 1) := by decide +kernel
theorem dX2_weighPairs_11 : decode cX2_weighPairs 11 = .ok (.aload_n 0, 1) := by decide +kernel
theorem dX2_weighPairs_12 : decode cX2_weighPairs 12 = .ok (.getfield 21, 3) := by decide +kernel
theorem dX2_weighPairs_15 : decode cX2_weighPairs 15 = .ok (.if_icmp .ge 93, 3) := by decide +kernel
theorem dX2_weighPairs_18 : decode cX2_weighPairs 18 = .ok (.aload_n 0, 1) := by decide +kernel
theorem dX2_weighPairs_19 : decode cX2_weighPairs 19 = .ok (.aload_n 0, 1) := by decide +kernel
theorem dX2_weighPairs_20 : decode cX2_weighPairs 20 = .ok (.getfield 11, 3) := by decide +kernel
theorem dX2_weighPairs_23 : decode cX2_weighPairs 23 = .ok (.iload_n 1, 1) := by decide +kernel
theorem dX2_weighPairs_24 : decode cX2_weighPairs 24 = .ok (.iaload, 1) := by decide +kernel
theorem dX2_weighPairs_25 : decode cX2_weighPairs 25 = .ok (.invokevirtual 32, 3) := by decide +kernel
theorem dX2_weighPairs_28 : decode cX2_weighPairs 28 = .ok (.iconst 0, 1) := by decide +kernel
theorem dX2_weighPairs_29 : decode cX2_weighPairs 29 = .ok (.istore_n 2, 1) := by decide +kernel
theorem dX2_weighPairs_30 : decode cX2_weighPairs 30 = .ok (.iload_n 2, 1) := by decide +kernel
theorem dX2_weighPairs_31 : decode cX2_weighPairs 31 = .ok (.aload_n 0, 1) := by decide +kernel
theorem dX2_weighPairs_32 : decode cX2_weighPairs 32 = .ok (.getfield 28, 3) := by decide +kernel
theorem dX2_weighPairs_35 : decode cX2_weighPairs 35 = .ok (.getfield 40, 3) := by decide +kernel
theorem dX2_weighPairs_38 : decode cX2_weighPairs 38 = .ok (.if_icmp .ge 64, 3) := by decide +kernel
theorem dX2_weighPairs_41 : decode cX2_weighPairs 41 = .ok (.iload_n 2, 1) := by decide +kernel
theorem dX2_weighPairs_42 : decode cX2_weighPairs 42 = .ok (.iconst 1, 1) := by decide +kernel
theorem dX2_weighPairs_43 : decode cX2_weighPairs 43 = .ok (.iadd, 1) := by decide +kernel
theorem dX2_weighPairs_44 : decode cX2_weighPairs 44 = .ok (.istore_n 3, 1) := by decide +kernel
theorem dX2_weighPairs_45 : decode cX2_weighPairs 45 = .ok (.iload_n 3, 1) := by decide +kernel
theorem dX2_weighPairs_46 : decode cX2_weighPairs 46 = .ok (.aload_n 0, 1) := by decide +kernel
theorem dX2_weighPairs_47 : decode cX2_weighPairs 47 = .ok (.getfield 28, 3) := by decide +kernel
theorem dX2_weighPairs_50 : decode cX2_weighPairs 50 = .ok (.getfield 40, 3) := by decide +kernel
theorem dX2_weighPairs_53 : decode cX2_weighPairs 53 = .ok (.if_icmp .ge 43, 3) := by decide +kernel
theorem dX2_weighPairs_56 : decode cX2_weighPairs 56 = .ok (.aload_n 0, 1) := by decide +kernel
theorem dX2_weighPairs_57 : decode cX2_weighPairs 57 = .ok (.getfield 18, 3) := by decide +kernel
theorem dX2_weighPairs_60 : decode cX2_weighPairs 60 = .ok (.iload_n 2, 1) := by decide +kernel
theorem dX2_weighPairs_61 : decode cX2_weighPairs 61 = .ok (.bipush 6, 2) := by decide +kernel
theorem dX2_weighPairs_63 : decode cX2_weighPairs 63 = .ok (.imul, 1) := by decide +kernel
theorem dX2_weighPairs_64 : decode cX2_weighPairs 64 = .ok (.iload_n 3, 1) := by decide +kernel
theorem dX2_weighPairs_65 : decode cX2_weighPairs 65 = .ok (.iadd, 1) := by decide +kernel
theorem dX2_weighPairs_66 : decode cX2_weighPairs 66 = .ok (.dup2, 1) := by decide +kernel
theorem dX2_weighPairs_67 : decode cX2_weighPairs 67 = .ok (.iaload, 1) := by decide +kernel
theorem dX2_weighPairs_68 : decode cX2_weighPairs 68 = .ok (.aload_n 0, 1) := by decide +kernel
theorem dX2_weighPairs_69 : decode cX2_weighPairs 69 = .ok (.getfield 15, 3) := by decide +kernel
theorem dX2_weighPairs_72 : decode cX2_weighPairs 72 = .ok (.iload_n 2, 1) := by decide +kernel
theorem dX2_weighPairs_73 : decode cX2_weighPairs 73 = .ok (.iaload, 1) := by decide +kernel
theorem dX2_weighPairs_74 : decode cX2_weighPairs 74 = .ok (.aload_n 0, 1) := by decide +kernel
theorem dX2_weighPairs_75 : decode cX2_weighPairs 75 = .ok (.getfield 15, 3) := by decide +kernel
theorem dX2_weighPairs_78 : decode cX2_weighPairs 78 = .ok (.iload_n 3, 1) := by decide +kernel
theorem dX2_weighPairs_79 : decode cX2_weighPairs 79 = .ok (.iaload, 1) := by decide +kernel
theorem dX2_weighPairs_80 : decode cX2_weighPairs 80 = .ok (.if_icmp .lt 7, 3) := by decide +kernel
theorem dX2_weighPairs_83 : decode cX2_weighPairs 83 = .ok (.iconst 1, 1) := by decide +kernel
theorem dX2_weighPairs_84 : decode cX2_weighPairs 84 = .ok (.goto 4, 3) := by decide +kernel
theorem dX2_weighPairs_87 : decode cX2_weighPairs 87 = .ok (.iconst (-1), 1) := by decide +kernel
theorem dX2_weighPairs_88 : decode cX2_weighPairs 88 = .ok (.iadd, 1) := by decide +kernel
theorem dX2_weighPairs_89 : decode cX2_weighPairs 89 = .ok (.iastore, 1) := by decide +kernel
theorem dX2_weighPairs_90 : decode cX2_weighPairs 90 = .ok (.iinc 3 1, 3) := by decide +kernel
theorem dX2_weighPairs_93 : decode cX2_weighPairs 93 = .ok (.goto (-48), 3) := by decide +kernel
theorem dX2_weighPairs_96 : decode cX2_weighPairs 96 = .ok (.iinc 2 1, 3) := by decide +kernel
theorem dX2_weighPairs_99 : decode cX2_weighPairs 99 = .ok (.goto (-69), 3) := by decide +kernel
theorem dX2_weighPairs_102 : decode cX2_weighPairs 102 = .ok (.iinc 1 1, 3) := by decide +kernel
theorem dX2_weighPairs_105 : decode cX2_weighPairs 105 = .ok (.goto (-95), 3) := by decide +kernel
theorem dX2_weighPairs_108 : decode cX2_weighPairs 108 = .ok (.return_, 1) := by decide +kernel
set_option maxRecDepth 100000 in
theorem gC_X2_18_81 {Q : Option AV → Mm → Prop} {K : KT} {cc : ByteArray} {nL d : Nat} {ret : Option FieldType} {pc n : Nat} {ls : List (Option AV)} {st : List AV} {μ : Mm} (hO : KOk PC Q K cc RX2 nL d ret) (hd : decode cc pc = .ok (.getfield 18, 3)) (hn : pc + 3 = n) (kk : AW K n ls (vR 84 :: st) μ) : AW K pc ls (vR 81 :: st) μ := aw_get (f := 3) hO hd hn okX2 (by decide) (lw_t2 26 rfl rfl) (by decide) rfl rfl rfl kk
set_option maxHeartbeats 4000000 in
set_option maxRecDepth 100000 in
theorem cJ_weighPairs {μ ν : Mm} (h : JR0 μ ν) {P : Nat → Bool} (hFT : FT P μ) : CtV PC 2 yX2_weighPairs cX2_weighPairs 4 none [vR 81] μ (fun m => Fr pS μ m ∧ ∀ a b : Nat, a < b → (b : Int) < ν.1 0 25 → m.1 84 (6 * a + b) = sumF (fun l => if P l = true then gP ν a b l else 0) 1000) := by
  refine ct_intro [some (vR 81), none, none, none] RX2 (by decide) rfl XCo rfl (Nat.le_of_ble_eq_true rfl) (fun K hO => ?_)
  have hnp := h.B.np
  have hnt := h.B.nt
  have hN0 := cntB_le P 1000
  refine aw_aload_n hO dX2_weighPairs_0 rfl rfl ?_
  refine gC_X2_18_81 hO dX2_weighPairs_1 rfl ?_
  refine aw_iconst hO dX2_weighPairs_4 rfl ?_
  refine aw_callSV (as := [vR 84, vI 0]) (st := []) hO dX2_weighPairs_5 rfl (lw_t5 10 rfl rfl) kJ7_fill_53178 (ctC_fill μ (r := 84) (N := 36) (v := 0) (by decide) rfl (by decide)) (by decide) rfl rfl rfl (Nat.le_of_ble_eq_true rfl) (fun μ2 hq3 => ?_)
  have e_μ2 := hq3
  refine aw_iconst hO dX2_weighPairs_8 rfl ?_
  refine aw_istore_n (ls' := [some (vR 81), some (vI 0), none, none]) hO dX2_weighPairs_9 rfl (Nat.le_of_ble_eq_true rfl) rfl rfl ?_
  have inner : ∀ (i L : Nat), i < cntB P 1000 → μ.1 82 i = (L : Int) → (∀ m, Fr pS μ m → BL ν μ (fun _ _ => i + 1) m → AW K 102 [some (vR 81), some (vI ((i : Nat) : Int)), none, none] [] m) → ∀ (c a : Nat) (m : Mm), (a : Int) + c = ν.1 0 25 → Fr pS μ m → (∀ p, p < (ν.1 0 25).toNat → m.1 83 p = tapM ν L p) → BL ν μ (fun x _ => if x < a then i + 1 else i) m → AW K 30 [some (vR 81), some (vI ((i : Nat) : Int)), some (vI ((a : Nat) : Int)), none] [] m := by
    intro i L hiN hiL k102 c
    induction c with
    | zero =>
      intro a m ha hF hA hB
      have hJm := h.fp hF
      refine aw_iload_n hO dX2_weighPairs_30 rfl rfl ?_
      refine aw_aload_n hO dX2_weighPairs_31 rfl rfl ?_
      refine gC_X2_28_81 hO dX2_weighPairs_32 rfl ?_
      refine gC_X2_40_25 hO dX2_weighPairs_35 rfl ?_
      refine aw_cg hJm.T.n ?_
      refine aw_icmp_ge (tgt := 102) hO dX2_weighPairs_38 rfl rfl (inRn (by omega)) ⟨by omega, by omega⟩ (fun c38 => ?_) (fun c38 => ?_)
      · refine aw_fg (ls' := [some (vR 81), some (vI ((i : Nat) : Int)), none, none]) ⟨rfl, rfl, trivial⟩ ?_
        exact k102 m hF (fun x y hxy hy => by have := hB x y hxy hy; (try dsimp only at this); (try dsimp only); rw [if_pos (show x < a by omega)] at this; exact this)
      · exact absurd c38 (by omega)
    | succ c ih =>
      intro a m ha hF hA hB
      have ib : ∀ (d b : Nat) (m : Mm), (b : Int) + d = ν.1 0 25 → a < b → Fr pS μ m → (∀ p, p < (ν.1 0 25).toNat → m.1 83 p = tapM ν L p) → BL ν μ (fun x y => if x < a ∨ (x = a ∧ y < b) then i + 1 else i) m → AW K 45 [some (vR 81), some (vI ((i : Nat) : Int)), some (vI ((a : Nat) : Int)), some (vI ((b : Nat) : Int))] [] m := by
        intro d
        induction d with
        | zero =>
          intro b m hb hab hF hA hB
          have hJm := h.fp hF
          refine aw_iload_n hO dX2_weighPairs_45 rfl rfl ?_
          refine aw_aload_n hO dX2_weighPairs_46 rfl rfl ?_
          refine gC_X2_28_81 hO dX2_weighPairs_47 rfl ?_
          refine gC_X2_40_25 hO dX2_weighPairs_50 rfl ?_
          refine aw_cg hJm.T.n ?_
          refine aw_icmp_ge (tgt := 96) hO dX2_weighPairs_53 rfl rfl (inRn (by omega)) ⟨by omega, by omega⟩ (fun c53 => ?_) (fun c53 => ?_)
          · refine aw_iinc (ls' := [some (vR 81), some (vI ((i : Nat) : Int)), some (vI (((a : Nat) : Int) + 1)), some (vI ((b : Nat) : Int))]) hO dX2_weighPairs_96 rfl rfl rfl rfl ?_
            refine aw_lsq (ls' := [some (vR 81), some (vI ((i : Nat) : Int)), some (vI (((a + 1) : Nat) : Int)), some (vI ((b : Nat) : Int))]) rfl ?_
            refine aw_goto (tgt := 30) hO dX2_weighPairs_99 rfl ?_
            refine aw_fg (ls' := [some (vR 81), some (vI ((i : Nat) : Int)), some (vI ((a + 1 : Nat) : Int)), none]) ⟨rfl, rfl, rfl, trivial⟩ ?_
            exact ih (a + 1) m (by omega) hF hA (fun x y hxy hy => by have := hB x y hxy hy; (try dsimp only at this); (try dsimp only); rw [if_iff (show (x < a ∨ (x = a ∧ y < b)) ↔ x < a + 1 from ⟨fun q => by omega, fun q => by omega⟩)] at this; exact this)
          · exact absurd c53 (by omega)
        | succ d ihd =>
          intro b m hb hab hF hA hB
          have hJm := h.fp hF
          have ha1 := tapM_R ν L a
          have hb1 := tapM_R ν L b
          have hab2 := hB a b hab (by omega)
          dsimp only at hab2
          rw [if_neg (by omega)] at hab2
          have e83a := hA a (by omega)
          have e83b := hA b (by omega)
          refine aw_iload_n hO dX2_weighPairs_45 rfl rfl ?_
          refine aw_aload_n hO dX2_weighPairs_46 rfl rfl ?_
          refine gC_X2_28_81 hO dX2_weighPairs_47 rfl ?_
          refine gC_X2_40_25 hO dX2_weighPairs_50 rfl ?_
          refine aw_cg hJm.T.n ?_
          refine aw_icmp_ge (tgt := 96) hO dX2_weighPairs_53 rfl rfl (inRn (by omega)) ⟨by omega, by omega⟩ (fun c53 => ?_) (fun c53 => ?_)
          · exact absurd c53 (by omega)
          · refine aw_aload_n hO dX2_weighPairs_56 rfl rfl ?_
            refine gC_X2_18_81 hO dX2_weighPairs_57 rfl ?_
            refine aw_iload_n hO dX2_weighPairs_60 rfl rfl ?_
            refine aw_bipush hO dX2_weighPairs_61 rfl (by decide) (by decide) ?_
            refine aw_imul hO dX2_weighPairs_63 rfl ?_
            refine aw_iload_n hO dX2_weighPairs_64 rfl rfl ?_
            refine aw_iadd hO dX2_weighPairs_65 rfl ?_
            refine aw_dup2 hO dX2_weighPairs_66 rfl rfl rfl ?_
            refine aw_ialdn (N := 36) (i := (6 * a + b)) hO dX2_weighPairs_67 rfl (by decide) rfl (by decide) (by omega) (by omega) ?_
            refine aw_aload_n hO dX2_weighPairs_68 rfl rfl ?_
            refine gC_X2_15_81 hO dX2_weighPairs_69 rfl ?_
            refine aw_iload_n hO dX2_weighPairs_72 rfl rfl ?_
            refine aw_ialdn (N := 6) (i := a) hO dX2_weighPairs_73 rfl (by decide) rfl (by decide) rfl (by omega) ?_
            refine aw_cg e83a ?_
            refine aw_aload_n hO dX2_weighPairs_74 rfl rfl ?_
            refine gC_X2_15_81 hO dX2_weighPairs_75 rfl ?_
            refine aw_iload_n hO dX2_weighPairs_78 rfl rfl ?_
            refine aw_ialdn (N := 6) (i := b) hO dX2_weighPairs_79 rfl (by decide) rfl (by decide) rfl (by omega) ?_
            refine aw_cg e83b ?_
            refine aw_icmp_lt (tgt := 87) hO dX2_weighPairs_80 rfl rfl ⟨by omega, by omega⟩ ⟨by omega, by omega⟩ (fun c80 => ?_) (fun c80 => ?_)
            · refine aw_iconst hO dX2_weighPairs_87 rfl ?_
              refine aw_iadd hO dX2_weighPairs_88 rfl ?_
              refine aw_iastn (N := 36) (i := (6 * a + b)) hO dX2_weighPairs_89 rfl (by decide) rfl (by decide) (by omega) (by omega) ?_
              refine aw_mm (fun μ4 e_μ4 => ?_)
              refine aw_iinc (ls' := [some (vR 81), some (vI ((i : Nat) : Int)), some (vI ((a : Nat) : Int)), some (vI (((b : Nat) : Int) + 1))]) hO dX2_weighPairs_90 rfl rfl rfl rfl ?_
              refine aw_lsq (ls' := [some (vR 81), some (vI ((i : Nat) : Int)), some (vI ((a : Nat) : Int)), some (vI (((b + 1) : Nat) : Int))]) rfl ?_
              refine aw_goto (tgt := 45) hO dX2_weighPairs_93 rfl ?_
              have hgv : gP ν a b L = (-1) := by unfold gP; rw [if_neg (by omega)]
              refine aw_lsq (ls' := [some (vR 81), some (vI ((i : Nat) : Int)), some (vI ((a : Nat) : Int)), some (vI ((b + 1 : Nat) : Int))]) rfl ?_
              refine ihd (b + 1) μ4 (by omega) (by omega) (by rw [e_μ4]; exact hF.st (Or.inr rfl) _) (fun q hq => by rw [e_μ4, mst_nk (by decide)]; exact hA q hq) (fun x y hxy hy => ?_)
              rw [e_μ4]
              dsimp only
              by_cases e : x = a ∧ y = b
              · rw [e.1, e.2, mst_eq, if_pos (by omega), sumF, hab2, hiL, Int.toNat_natCast, hgv]
              · have := hB x y hxy hy
                dsimp only at this
                rw [mst_ni (by omega), this, if_iff (show (x < a ∨ (x = a ∧ y < b)) ↔ (x < a ∨ (x = a ∧ y < b + 1)) from ⟨fun q => by omega, fun q => by omega⟩)]
            · refine aw_iconst hO dX2_weighPairs_83 rfl ?_
              refine aw_goto (tgt := 88) hO dX2_weighPairs_84 rfl ?_
              refine aw_iadd hO dX2_weighPairs_88 rfl ?_
              refine aw_iastn (N := 36) (i := (6 * a + b)) hO dX2_weighPairs_89 rfl (by decide) rfl (by decide) (by omega) (by omega) ?_
              refine aw_mm (fun μ5 e_μ5 => ?_)
              refine aw_iinc (ls' := [some (vR 81), some (vI ((i : Nat) : Int)), some (vI ((a : Nat) : Int)), some (vI (((b : Nat) : Int) + 1))]) hO dX2_weighPairs_90 rfl rfl rfl rfl ?_
              refine aw_lsq (ls' := [some (vR 81), some (vI ((i : Nat) : Int)), some (vI ((a : Nat) : Int)), some (vI (((b + 1) : Nat) : Int))]) rfl ?_
              refine aw_goto (tgt := 45) hO dX2_weighPairs_93 rfl ?_
              have hgv : gP ν a b L = 1 := by unfold gP; rw [if_pos (by omega)]
              refine aw_lsq (ls' := [some (vR 81), some (vI ((i : Nat) : Int)), some (vI ((a : Nat) : Int)), some (vI ((b + 1 : Nat) : Int))]) rfl ?_
              refine ihd (b + 1) μ5 (by omega) (by omega) (by rw [e_μ5]; exact hF.st (Or.inr rfl) _) (fun q hq => by rw [e_μ5, mst_nk (by decide)]; exact hA q hq) (fun x y hxy hy => ?_)
              rw [e_μ5]
              dsimp only
              by_cases e : x = a ∧ y = b
              · rw [e.1, e.2, mst_eq, if_pos (by omega), sumF, hab2, hiL, Int.toNat_natCast, hgv]
              · have := hB x y hxy hy
                dsimp only at this
                rw [mst_ni (by omega), this, if_iff (show (x < a ∨ (x = a ∧ y < b)) ↔ (x < a ∨ (x = a ∧ y < b + 1)) from ⟨fun q => by omega, fun q => by omega⟩)]
      have hJm := h.fp hF
      refine aw_iload_n hO dX2_weighPairs_30 rfl rfl ?_
      refine aw_aload_n hO dX2_weighPairs_31 rfl rfl ?_
      refine gC_X2_28_81 hO dX2_weighPairs_32 rfl ?_
      refine gC_X2_40_25 hO dX2_weighPairs_35 rfl ?_
      refine aw_cg hJm.T.n ?_
      refine aw_icmp_ge (tgt := 102) hO dX2_weighPairs_38 rfl rfl (inRn (by omega)) ⟨by omega, by omega⟩ (fun c38 => ?_) (fun c38 => ?_)
      · exact absurd c38 (by omega)
      · refine aw_iload_n hO dX2_weighPairs_41 rfl rfl ?_
        refine aw_iconst hO dX2_weighPairs_42 rfl ?_
        refine aw_iadd hO dX2_weighPairs_43 rfl ?_
        refine aw_istore_n (ls' := [some (vR 81), some (vI ((i : Nat) : Int)), some (vI ((a : Nat) : Int)), some (vI (((a : Nat) : Int) + 1))]) hO dX2_weighPairs_44 rfl (Nat.le_of_ble_eq_true rfl) rfl rfl ?_
        refine aw_lsq (ls' := [some (vR 81), some (vI ((i : Nat) : Int)), some (vI ((a : Nat) : Int)), some (vI ((a + 1 : Nat) : Int))]) rfl ?_
        exact ib ((ν.1 0 25).toNat - (a + 1)) (a + 1) m (by omega) (by omega) hF hA (fun x y hxy hy => by have := hB x y hxy hy; (try dsimp only at this); (try dsimp only); rw [if_iff (show x < a ↔ (x < a ∨ (x = a ∧ y < a + 1)) from ⟨fun q => by omega, fun q => by omega⟩)] at this; exact this)
  have outer : ∀ (c i : Nat) (m : Mm), i + c = cntB P 1000 → Fr pS μ m → BL ν μ (fun _ _ => i) m → AW K 10 [some (vR 81), some (vI ((i : Nat) : Int)), none, none] [] m := by
    intro c
    induction c with
    | zero =>
      intro i m hi hF hB
      have h81 : m.1 81 4 = ((cntB P 1000 : Nat) : Int) := by rw [hF.1 81 4 (by unfold pS; omega)]; exact hFT.1
      refine aw_iload_n hO dX2_weighPairs_10 rfl rfl ?_
      refine aw_aload_n hO dX2_weighPairs_11 rfl rfl ?_
      refine gC_X2_21_81 hO dX2_weighPairs_12 rfl ?_
      refine aw_cg h81 ?_
      refine aw_icmp_ge (tgt := 108) hO dX2_weighPairs_15 rfl rfl (inRn (by omega)) (inRn (by omega)) (fun c15 => ?_) (fun c15 => ?_)
      · refine aw_vret hO dX2_weighPairs_108 ?_
        exact ⟨rfl, hF, fun a b hab hb => by rw [hB a b hab hb, show i = cntB P 1000 by omega]; exact sum_sub hFT 1000 (Nat.le_refl _)⟩
      · exact absurd c15 (by omega)
    | succ c ih =>
      intro i m hi hF hB
      have h81 : m.1 81 4 = ((cntB P 1000 : Nat) : Int) := by rw [hF.1 81 4 (by unfold pS; omega)]; exact hFT.1
      obtain ⟨L, hL, hPL, hcL, hLm⟩ := hFT.at (show i < cntB P 1000 by omega)
      have hLi : m.1 82 i = (L : Int) := by rw [hF.1 82 i (by unfold pS; omega)]; exact hLm
      have hJm := h.fp hF
      refine aw_iload_n hO dX2_weighPairs_10 rfl rfl ?_
      refine aw_aload_n hO dX2_weighPairs_11 rfl rfl ?_
      refine gC_X2_21_81 hO dX2_weighPairs_12 rfl ?_
      refine aw_cg h81 ?_
      refine aw_icmp_ge (tgt := 108) hO dX2_weighPairs_15 rfl rfl (inRn (by omega)) (inRn (by omega)) (fun c15 => ?_) (fun c15 => ?_)
      · exact absurd c15 (by omega)
      · refine aw_aload_n hO dX2_weighPairs_18 rfl rfl ?_
        refine aw_aload_n hO dX2_weighPairs_19 rfl rfl ?_
        refine gC_X2_11_81 hO dX2_weighPairs_20 rfl ?_
        refine aw_iload_n hO dX2_weighPairs_23 rfl rfl ?_
        refine aw_ialdn (N := 1000) (i := i) hO dX2_weighPairs_24 rfl (by decide) rfl (by decide) rfl (by omega) ?_
        refine aw_cg hLi ?_
        refine aw_callVV (as := [vI ((L : Nat) : Int)]) (st := []) hO dX2_weighPairs_25 rfl (lw_t4 227 rfl rfl) kX2_weigh (T := TX2) rfl (by decide) rfl (cJ_weighG hJm (L := L) (by omega)) (by decide) rfl rfl rfl (Nat.le_of_ble_eq_true rfl) (fun μ7 hq8 => ?_)
        refine aw_iconst hO dX2_weighPairs_28 rfl ?_
        refine aw_istore_n (ls' := [some (vR 81), some (vI ((i : Nat) : Int)), some (vI 0), none]) hO dX2_weighPairs_29 rfl (Nat.le_of_ble_eq_true rfl) rfl rfl ?_
        refine aw_lsq (ls' := [some (vR 81), some (vI ((i : Nat) : Int)), some (vI ((0 : Nat) : Int)), none]) rfl ?_
        refine inner i L (by omega) hLm (fun m hF hB => ?_) (ν.1 0 25).toNat 0 μ7 (by omega) (hF.tr (hq8.1.mono (fun _ _ e => Or.inl e))) hq8.2 (fun x y hxy hy => by rw [hq8.1.1 84 _ (show ¬ (84 : Nat) = 83 by decide), show ((fun (x _y : Nat) => if x < 0 then i + 1 else i) x y) = i from if_neg (Nat.not_lt_zero _)]; exact hB x y hxy hy)
        refine aw_iinc (ls' := [some (vR 81), some (vI (((i : Nat) : Int) + 1)), none, none]) hO dX2_weighPairs_102 rfl rfl rfl rfl ?_
        refine aw_lsq (ls' := [some (vR 81), some (vI (((i + 1) : Nat) : Int)), none, none]) rfl ?_
        refine aw_goto (tgt := 10) hO dX2_weighPairs_105 rfl ?_
        refine aw_lsq (ls' := [some (vR 81), some (vI ((i + 1 : Nat) : Int)), none, none]) rfl ?_
        exact ih (i + 1) m (by omega) hF hB
  refine aw_lsq (ls' := [some (vR 81), some (vI ((0 : Nat) : Int)), none, none]) rfl ?_
  exact outer (cntB P 1000) 0 μ2 (by omega) (by rw [e_μ2]; exact Fr.rf.fl (fun i => Or.inr rfl) _ _ _) (fun a b hab hb => by rw [e_μ2, mfl_in (by omega) (by omega)]; rfl)
def dP (ν : Mm) (P : Nat → Bool) (a b : Nat) : Int := if 0 ≤ sumF (fun l => if P l = true then gP ν a b l else 0) 1000 then sumF (fun l => if P l = true then gP ν a b l else 0) 1000 else -(sumF (fun l => if P l = true then gP ν a b l else 0) 1000)
theorem sP_rng (ν : Mm) (P : Nat → Bool) (a b : Nat) : -1000 ≤ sumF (fun l => if P l = true then gP ν a b l else 0) 1000 ∧ sumF (fun l => if P l = true then gP ν a b l else 0) 1000 ≤ 1000 := by
  have := sumF_abs (f := fun l => if P l = true then gP ν a b l else 0) (fun k => by
    have := gP_1 ν a b k
    split <;> omega) 1000
  exact ⟨by omega, by omega⟩
theorem dP_rng (ν : Mm) (P : Nat → Bool) (a b : Nat) : 0 ≤ dP ν P a b ∧ dP ν P a b ≤ 1000 := by
  have := sP_rng ν P a b
  unfold dP
  split <;> omega
theorem tpk_pair {ν : Mm} {a b L : Nat} (hab : a < b) (hb : (b : Int) < ν.1 0 25) (hn : ν.1 0 25 ≤ 6) : tpkM ν (bOr (bShl 1 (a : Int)) (bShl 1 (b : Int))) L = (a : Int) ↔ tapM ν L b ≤ tapM ν L a := by
  have hbit : ∀ q, q < 6 → hasB (bOr (bShl 1 (a : Int)) (bShl 1 (b : Int))) q = (decide (q = a) || decide (q = b)) := fun q hq => by rw [hasB_or (by omega), hasB_shl (by omega) (by omega), hasB_shl (by omega) (by omega)]
  have key : ∀ n, n ≤ 6 → best (fun p => hasB (bOr (bShl 1 (a : Int)) (bShl 1 (b : Int))) p) (tapM ν L) n = if n ≤ a then -1 else if n ≤ b then (a : Int) else if tapM ν L b ≤ tapM ν L a then (a : Int) else (b : Int) := by
    intro n
    induction n with
    | zero => intro _; rw [if_pos (Nat.zero_le _)]; rfl
    | succ n ih =>
      intro hn6
      rw [best_succ, ih (by omega), hbit n (by omega)]
      by_cases h1 : n = a
      · subst h1
        rw [if_pos (Nat.le_refl _), if_pos ⟨by simp, Or.inl rfl⟩, if_neg (by omega), if_pos (by omega)]
      · by_cases h2 : n = b
        · subst h2
          rw [if_neg (show ¬ n ≤ a by omega), if_pos (Nat.le_refl _), if_neg (show ¬ n + 1 ≤ a by omega), if_neg (show ¬ n + 1 ≤ n by omega), Int.toNat_natCast]
          by_cases h3 : tapM ν L n ≤ tapM ν L a
          · rw [if_pos h3, if_neg (fun q => by rcases q.2 with z | z <;> omega)]
          · rw [if_neg h3, if_pos ⟨by simp, Or.inr (by omega)⟩]
        · rw [if_neg (fun q => by have := q.1; simp [h1, h2] at this)]
          by_cases h4 : n ≤ a
          · rw [if_pos h4, if_pos (by omega)]
          · rw [if_neg h4, if_neg (show ¬ n + 1 ≤ a by omega)]
            by_cases h5 : n ≤ b
            · rw [if_pos h5, if_pos (by omega)]
            · rw [if_neg h5, if_neg (show ¬ n + 1 ≤ b by omega)]
  unfold tpkM
  rw [key _ (by omega), if_neg (by omega), if_neg (by omega)]
  constructor
  · intro q
    by_cases h3 : tapM ν L b ≤ tapM ν L a
    · exact h3
    · rw [if_neg h3] at q; omega
  · intro q; rw [if_pos q]
theorem dP_ap {ν : Mm} {a b : Nat} (hab : a < b) (hb : (b : Int) < ν.1 0 25) (hn : ν.1 0 25 ≤ 6) : dP ν (likB ν) a b = apD ν a b := by
  have e : (fun l => if likB ν l = true then gP ν a b l else 0) = apF ν a b := by
    funext l
    unfold apF gP
    by_cases h : likB ν l = true
    · rw [if_pos h, if_pos h, if_iff (tpk_pair hab hb hn).symm]
    · rw [if_neg h, if_neg h]
  unfold dP apD
  rw [e]
theorem shI_congr {D D' : Nat → Nat → Int} {p : Nat} {s : Int × Int} : ∀ j, (∀ o, p < o → o < p + 1 + j → D p o = D' p o) → shI D p s j = shI D' p s j
  | 0, _ => rfl
  | j + 1, h => by rw [shI, shI, shI_congr j (fun o h1 h2 => h o h1 (by omega)), h (p + 1 + j) (by omega) (by omega)]
theorem shO_congr {D D' : Nat → Nat → Int} {n : Nat} (h : ∀ p o, p < o → o < n → D p o = D' p o) : ∀ p, p ≤ n → shO D n p = shO D' n p
  | 0, _ => rfl
  | p + 1, hp => by rw [shO, shO, shO_congr h p (by omega), shI_congr _ (fun o h1 h2 => h p o h1 (by omega))]
theorem dX2_bestPair_0 : decode cX2_bestPair 0 = .ok (.aload_n 0, 1) := by decide +kernel
theorem dX2_bestPair_1 : decode cX2_bestPair 1 = .ok (.invokevirtual 53, 3) := by decide +kernel
theorem dX2_bestPair_4 : decode cX2_bestPair 4 = .ok (.iconst (-1), 1) := by decide +kernel
theorem dX2_bestPair_5 : decode cX2_bestPair 5 = .ok (.istore_n 1, 1) := by decide +kernel
theorem dX2_bestPair_6 : decode cX2_bestPair 6 = .ok (.iconst 0, 1) := by decide +kernel
theorem dX2_bestPair_7 : decode cX2_bestPair 7 = .ok (.istore_n 2, 1) := by decide +kernel
theorem dX2_bestPair_8 : decode cX2_bestPair 8 = .ok (.iconst 0, 1) := by decide +kernel
theorem dX2_bestPair_9 : decode cX2_bestPair 9 = .ok (.istore_n 3, 1) := by decide +kernel
theorem dX2_bestPair_10 : decode cX2_bestPair 10 = .ok (.iload_n 3, 1) := by decide +kernel
theorem dX2_bestPair_11 : decode cX2_bestPair 11 = .ok (.aload_n 0, 1) := by decide +kernel
theorem dX2_bestPair_12 : decode cX2_bestPair 12 = .ok (.getfield 28, 3) := by decide +kernel
theorem dX2_bestPair_15 : decode cX2_bestPair 15 = .ok (.getfield 40, 3) := by decide +kernel
theorem dX2_bestPair_18 : decode cX2_bestPair 18 = .ok (.if_icmp .ge 71, 3) := by decide +kernel
theorem dX2_bestPair_21 : decode cX2_bestPair 21 = .ok (.iload_n 3, 1) := by decide +kernel
theorem dX2_bestPair_22 : decode cX2_bestPair 22 = .ok (.iconst 1, 1) := by decide +kernel
theorem dX2_bestPair_23 : decode cX2_bestPair 23 = .ok (.iadd, 1) := by decide +kernel
theorem dX2_bestPair_24 : decode cX2_bestPair 24 = .ok (.istore 4, 2) := by decide +kernel
theorem dX2_bestPair_26 : decode cX2_bestPair 26 = .ok (.iload 4, 2) := by decide +kernel
theorem dX2_bestPair_28 : decode cX2_bestPair 28 = .ok (.aload_n 0, 1) := by decide +kernel
theorem dX2_bestPair_29 : decode cX2_bestPair 29 = .ok (.getfield 28, 3) := by decide +kernel
theorem dX2_bestPair_32 : decode cX2_bestPair 32 = .ok (.getfield 40, 3) := by decide +kernel
theorem dX2_bestPair_35 : decode cX2_bestPair 35 = .ok (.if_icmp .ge 48, 3) := by decide +kernel
theorem dX2_bestPair_38 : decode cX2_bestPair 38 = .ok (.aload_n 0, 1) := by decide +kernel
theorem dX2_bestPair_39 : decode cX2_bestPair 39 = .ok (.getfield 18, 3) := by decide +kernel
theorem dX2_bestPair_42 : decode cX2_bestPair 42 = .ok (.iload_n 3, 1) := by decide +kernel
theorem dX2_bestPair_43 : decode cX2_bestPair 43 = .ok (.bipush 6, 2) := by decide +kernel
theorem dX2_bestPair_45 : decode cX2_bestPair 45 = .ok (.imul, 1) := by decide +kernel
theorem dX2_bestPair_46 : decode cX2_bestPair 46 = .ok (.iload 4, 2) := by decide +kernel
theorem dX2_bestPair_48 : decode cX2_bestPair 48 = .ok (.iadd, 1) := by decide +kernel
theorem dX2_bestPair_49 : decode cX2_bestPair 49 = .ok (.iaload, 1) := by decide +kernel
theorem dX2_bestPair_50 : decode cX2_bestPair 50 = .ok (.invokestatic 56, 3) := by decide +kernel
theorem dX2_bestPair_53 : decode cX2_bestPair 53 = .ok (.istore 5, 2) := by decide +kernel
theorem dX2_bestPair_55 : decode cX2_bestPair 55 = .ok (.iload_n 1, 1) := by decide +kernel
theorem dX2_bestPair_56 : decode cX2_bestPair 56 = .ok (.iconst (-1), 1) := by decide +kernel
theorem dX2_bestPair_57 : decode cX2_bestPair 57 = .ok (.if_icmp .eq 9, 3) := by decide +kernel
theorem dX2_bestPair_60 : decode cX2_bestPair 60 = .ok (.iload 5, 2) := by decide +kernel
theorem dX2_bestPair_62 : decode cX2_bestPair 62 = .ok (.iload_n 2, 1) := by decide +kernel
theorem dX2_bestPair_63 : decode cX2_bestPair 63 = .ok (.if_icmp .ge 14, 3) := by decide +kernel
theorem dX2_bestPair_66 : decode cX2_bestPair 66 = .ok (.bipush 10, 2) := by decide +kernel
theorem dX2_bestPair_68 : decode cX2_bestPair 68 = .ok (.iload_n 3, 1) := by decide +kernel
theorem dX2_bestPair_69 : decode cX2_bestPair 69 = .ok (.imul, 1) := by decide +kernel
theorem dX2_bestPair_70 : decode cX2_bestPair 70 = .ok (.iload 4, 2) := by decide +kernel
theorem dX2_bestPair_72 : decode cX2_bestPair 72 = .ok (.iadd, 1) := by decide +kernel
theorem dX2_bestPair_73 : decode cX2_bestPair 73 = .ok (.istore_n 1, 1) := by decide +kernel
theorem dX2_bestPair_74 : decode cX2_bestPair 74 = .ok (.iload 5, 2) := by decide +kernel
theorem dX2_bestPair_76 : decode cX2_bestPair 76 = .ok (.istore_n 2, 1) := by decide +kernel
theorem dX2_bestPair_77 : decode cX2_bestPair 77 = .ok (.iinc 4 1, 3) := by decide +kernel
theorem dX2_bestPair_80 : decode cX2_bestPair 80 = .ok (.goto (-54), 3) := by decide +kernel
theorem dX2_bestPair_83 : decode cX2_bestPair 83 = .ok (.iinc 3 1, 3) := by decide +kernel
theorem dX2_bestPair_86 : decode cX2_bestPair 86 = .ok (.goto (-76), 3) := by decide +kernel
theorem dX2_bestPair_89 : decode cX2_bestPair 89 = .ok (.iload_n 1, 1) := by decide +kernel
theorem dX2_bestPair_90 : decode cX2_bestPair 90 = .ok (.ireturn, 1) := by decide +kernel
set_option maxHeartbeats 4000000 in
set_option maxRecDepth 100000 in
theorem cJ_bestPair {μ ν : Mm} (h : JR0 μ ν) {P : Nat → Bool} (hFT : FT P μ) : CtE PC 3 yX2_bestPair cX2_bestPair 6 (some .int) [vR 81] μ (fun r m => r = (shO (dP ν P) (ν.1 0 25).toNat (ν.1 0 25).toNat).1 ∧ Fr pS μ m) := by
  refine ct_intro [some (vR 81), none, none, none, none, none] RX2 (by decide) rfl XCo rfl (Nat.le_of_ble_eq_true rfl) (fun K hO => ?_)
  have hnp := h.B.np
  have hnt := h.B.nt
  refine aw_aload_n hO dX2_bestPair_0 rfl rfl ?_
  refine aw_callVV (as := []) (st := []) hO dX2_bestPair_1 rfl (lw_t5 6 rfl rfl) kX2_weighPairs (T := TX2) rfl (by decide) rfl (cJ_weighPairs h hFT) (by decide) rfl rfl rfl (Nat.le_of_ble_eq_true rfl) (fun μ2 hq3 => ?_)
  obtain ⟨hF1, hB1⟩ := hq3
  have hJ1 := h.fp hF1
  refine aw_iconst hO dX2_bestPair_4 rfl ?_
  refine aw_istore_n (ls' := [some (vR 81), some (vI (-1)), none, none, none, none]) hO dX2_bestPair_5 rfl (Nat.le_of_ble_eq_true rfl) rfl rfl ?_
  refine aw_iconst hO dX2_bestPair_6 rfl ?_
  refine aw_istore_n (ls' := [some (vR 81), some (vI (-1)), some (vI 0), none, none, none]) hO dX2_bestPair_7 rfl (Nat.le_of_ble_eq_true rfl) rfl rfl ?_
  refine aw_iconst hO dX2_bestPair_8 rfl ?_
  refine aw_istore_n (ls' := [some (vR 81), some (vI (-1)), some (vI 0), some (vI 0), none, none]) hO dX2_bestPair_9 rfl (Nat.le_of_ble_eq_true rfl) rfl rfl ?_
  have ib : ∀ (a : Nat) (s0 : Int × Int), (a : Int) < ν.1 0 25 → ((-1 ≤ s0.1 ∧ s0.1 ≤ 60) ∧ (0 ≤ s0.2 ∧ s0.2 ≤ 1000)) → (∀ s : Int × Int, s = shI (dP ν P) a s0 ((ν.1 0 25).toNat - 1 - a) → AW K 83 [some (vR 81), some (vI s.1), some (vI s.2), some (vI ((a : Nat) : Int)), none, none] [] μ2) → ∀ (d j : Nat) (s : Int × Int), (a : Int) + 1 + j + d = ν.1 0 25 → s = shI (dP ν P) a s0 j → AW K 26 [some (vR 81), some (vI s.1), some (vI s.2), some (vI ((a : Nat) : Int)), some (vI ((a + 1 + j : Nat) : Int)), none] [] μ2 := by
    intro a s0 ha hs0 k83 d
    induction d with
    | zero =>
      intro j s hj hs
      refine aw_iload hO dX2_bestPair_26 rfl rfl ?_
      refine aw_aload_n hO dX2_bestPair_28 rfl rfl ?_
      refine gC_X2_28_81 hO dX2_bestPair_29 rfl ?_
      refine gC_X2_40_25 hO dX2_bestPair_32 rfl ?_
      refine aw_cg hJ1.T.n ?_
      refine aw_icmp_ge (tgt := 83) hO dX2_bestPair_35 rfl rfl (inRn (by omega)) ⟨by omega, by omega⟩ (fun c35 => ?_) (fun c35 => ?_)
      · refine aw_fg (ls' := [some (vR 81), some (vI s.1), some (vI s.2), some (vI ((a : Nat) : Int)), none, none]) ⟨rfl, rfl, rfl, rfl, trivial⟩ ?_
        exact k83 s (by rw [hs, show (ν.1 0 25).toNat - 1 - a = j by omega])
      · exact absurd c35 (by omega)
    | succ d ih =>
      intro j s hj hs
      have hsr := shI_rng (D := (dP ν P)) (fun x y => dP_rng ν P x y) (p := a) (s := s0) (by omega) hs0 j (by omega)
      rw [← hs] at hsr
      have hv := hB1 a (a + 1 + j) (by omega) (by omega)
      have hsp := sP_rng ν P a (a + 1 + j)
      have hdr := dP_rng ν P a (a + 1 + j)
      refine aw_iload hO dX2_bestPair_26 rfl rfl ?_
      refine aw_aload_n hO dX2_bestPair_28 rfl rfl ?_
      refine gC_X2_28_81 hO dX2_bestPair_29 rfl ?_
      refine gC_X2_40_25 hO dX2_bestPair_32 rfl ?_
      refine aw_cg hJ1.T.n ?_
      refine aw_icmp_ge (tgt := 83) hO dX2_bestPair_35 rfl rfl (inRn (by omega)) ⟨by omega, by omega⟩ (fun c35 => ?_) (fun c35 => ?_)
      · exact absurd c35 (by omega)
      · refine aw_aload_n hO dX2_bestPair_38 rfl rfl ?_
        refine gC_X2_18_81 hO dX2_bestPair_39 rfl ?_
        refine aw_iload_n hO dX2_bestPair_42 rfl rfl ?_
        refine aw_bipush hO dX2_bestPair_43 rfl (by decide) (by decide) ?_
        refine aw_imul hO dX2_bestPair_45 rfl ?_
        refine aw_iload hO dX2_bestPair_46 rfl rfl ?_
        refine aw_iadd hO dX2_bestPair_48 rfl ?_
        refine aw_ialdn (N := 36) (i := (6 * a + (a + 1 + j))) hO dX2_bestPair_49 rfl (by decide) rfl (by decide) (by omega) (by omega) ?_
        refine aw_cg hv ?_
        refine aw_mabs hO dX2_bestPair_50 rfl (lw_t5 11 rfl rfl) mth_abs (by decide) rfl (Nat.le_of_ble_eq_true rfl) ⟨by omega, by omega⟩ ?_
        refine aw_cg (show _ = dP ν P a (a + 1 + j) from rfl) ?_
        refine aw_istore (ls' := [some (vR 81), some (vI s.1), some (vI s.2), some (vI ((a : Nat) : Int)), some (vI (((a + 1 + j) : Nat) : Int)), some (vI (dP ν P a (a + 1 + j)))]) hO dX2_bestPair_53 rfl (Nat.le_of_ble_eq_true rfl) rfl rfl ?_
        refine aw_iload_n hO dX2_bestPair_55 rfl rfl ?_
        refine aw_iconst hO dX2_bestPair_56 rfl ?_
        refine aw_icmp_eq (tgt := 66) hO dX2_bestPair_57 rfl rfl ⟨by omega, by omega⟩ (inRlit _) (fun c57 => ?_) (fun c57 => ?_)
        · refine aw_bipush hO dX2_bestPair_66 rfl (by decide) (by decide) ?_
          refine aw_iload_n hO dX2_bestPair_68 rfl rfl ?_
          refine aw_imul hO dX2_bestPair_69 rfl ?_
          refine aw_iload hO dX2_bestPair_70 rfl rfl ?_
          refine aw_iadd hO dX2_bestPair_72 rfl ?_
          refine aw_istore_n (ls' := [some (vR 81), some (vI ((10 * ((a : Nat) : Int)) + (((a + 1 + j) : Nat) : Int))), some (vI s.2), some (vI ((a : Nat) : Int)), some (vI (((a + 1 + j) : Nat) : Int)), some (vI (dP ν P a (a + 1 + j)))]) hO dX2_bestPair_73 rfl (Nat.le_of_ble_eq_true rfl) rfl rfl ?_
          refine aw_iload hO dX2_bestPair_74 rfl rfl ?_
          refine aw_istore_n (ls' := [some (vR 81), some (vI ((10 * ((a : Nat) : Int)) + (((a + 1 + j) : Nat) : Int))), some (vI (dP ν P a (a + 1 + j))), some (vI ((a : Nat) : Int)), some (vI (((a + 1 + j) : Nat) : Int)), some (vI (dP ν P a (a + 1 + j)))]) hO dX2_bestPair_76 rfl (Nat.le_of_ble_eq_true rfl) rfl rfl ?_
          refine aw_iinc (ls' := [some (vR 81), some (vI ((10 * ((a : Nat) : Int)) + (((a + 1 + j) : Nat) : Int))), some (vI (dP ν P a (a + 1 + j))), some (vI ((a : Nat) : Int)), some (vI ((((a + 1 + j) : Nat) : Int) + 1)), some (vI (dP ν P a (a + 1 + j)))]) hO dX2_bestPair_77 rfl rfl rfl rfl ?_
          refine aw_lsq (ls' := [some (vR 81), some (vI ((10 * ((a : Nat) : Int)) + (((a + 1 + j) : Nat) : Int))), some (vI (dP ν P a (a + 1 + j))), some (vI ((a : Nat) : Int)), some (vI ((((a + 1 + j) + 1) : Nat) : Int)), some (vI (dP ν P a (a + 1 + j)))]) rfl ?_
          refine aw_goto (tgt := 26) hO dX2_bestPair_80 rfl ?_
          refine aw_fg (ls' := [some (vR 81), some (vI (10 * (a : Int) + ((a + 1 + j : Nat) : Int), dP ν P a (a + 1 + j)).1), some (vI (10 * (a : Int) + ((a + 1 + j : Nat) : Int), dP ν P a (a + 1 + j)).2), some (vI ((a : Nat) : Int)), some (vI ((a + 1 + (j + 1) : Nat) : Int)), none]) ⟨rfl, rfl, rfl, rfl, rfl, trivial⟩ ?_
          exact ih (j + 1) _ (by omega) (by rw [shI, ← hs, if_pos (Or.inl c57)])
        · refine aw_iload hO dX2_bestPair_60 rfl rfl ?_
          refine aw_iload_n hO dX2_bestPair_62 rfl rfl ?_
          refine aw_icmp_ge (tgt := 77) hO dX2_bestPair_63 rfl rfl ⟨by omega, by omega⟩ ⟨by omega, by omega⟩ (fun c63 => ?_) (fun c63 => ?_)
          · refine aw_iinc (ls' := [some (vR 81), some (vI s.1), some (vI s.2), some (vI ((a : Nat) : Int)), some (vI ((((a + 1 + j) : Nat) : Int) + 1)), some (vI (dP ν P a (a + 1 + j)))]) hO dX2_bestPair_77 rfl rfl rfl rfl ?_
            refine aw_lsq (ls' := [some (vR 81), some (vI s.1), some (vI s.2), some (vI ((a : Nat) : Int)), some (vI ((((a + 1 + j) + 1) : Nat) : Int)), some (vI (dP ν P a (a + 1 + j)))]) rfl ?_
            refine aw_goto (tgt := 26) hO dX2_bestPair_80 rfl ?_
            refine aw_fg (ls' := [some (vR 81), some (vI s.1), some (vI s.2), some (vI ((a : Nat) : Int)), some (vI ((a + 1 + (j + 1) : Nat) : Int)), none]) ⟨rfl, rfl, rfl, rfl, rfl, trivial⟩ ?_
            exact ih (j + 1) s (by omega) (by rw [shI, ← hs, if_neg (fun q => q.elim c57 (fun q => by omega))])
          · refine aw_bipush hO dX2_bestPair_66 rfl (by decide) (by decide) ?_
            refine aw_iload_n hO dX2_bestPair_68 rfl rfl ?_
            refine aw_imul hO dX2_bestPair_69 rfl ?_
            refine aw_iload hO dX2_bestPair_70 rfl rfl ?_
            refine aw_iadd hO dX2_bestPair_72 rfl ?_
            refine aw_istore_n (ls' := [some (vR 81), some (vI ((10 * ((a : Nat) : Int)) + (((a + 1 + j) : Nat) : Int))), some (vI s.2), some (vI ((a : Nat) : Int)), some (vI (((a + 1 + j) : Nat) : Int)), some (vI (dP ν P a (a + 1 + j)))]) hO dX2_bestPair_73 rfl (Nat.le_of_ble_eq_true rfl) rfl rfl ?_
            refine aw_iload hO dX2_bestPair_74 rfl rfl ?_
            refine aw_istore_n (ls' := [some (vR 81), some (vI ((10 * ((a : Nat) : Int)) + (((a + 1 + j) : Nat) : Int))), some (vI (dP ν P a (a + 1 + j))), some (vI ((a : Nat) : Int)), some (vI (((a + 1 + j) : Nat) : Int)), some (vI (dP ν P a (a + 1 + j)))]) hO dX2_bestPair_76 rfl (Nat.le_of_ble_eq_true rfl) rfl rfl ?_
            refine aw_iinc (ls' := [some (vR 81), some (vI ((10 * ((a : Nat) : Int)) + (((a + 1 + j) : Nat) : Int))), some (vI (dP ν P a (a + 1 + j))), some (vI ((a : Nat) : Int)), some (vI ((((a + 1 + j) : Nat) : Int) + 1)), some (vI (dP ν P a (a + 1 + j)))]) hO dX2_bestPair_77 rfl rfl rfl rfl ?_
            refine aw_lsq (ls' := [some (vR 81), some (vI ((10 * ((a : Nat) : Int)) + (((a + 1 + j) : Nat) : Int))), some (vI (dP ν P a (a + 1 + j))), some (vI ((a : Nat) : Int)), some (vI ((((a + 1 + j) + 1) : Nat) : Int)), some (vI (dP ν P a (a + 1 + j)))]) rfl ?_
            refine aw_goto (tgt := 26) hO dX2_bestPair_80 rfl ?_
            refine aw_fg (ls' := [some (vR 81), some (vI (10 * (a : Int) + ((a + 1 + j : Nat) : Int), dP ν P a (a + 1 + j)).1), some (vI (10 * (a : Int) + ((a + 1 + j : Nat) : Int), dP ν P a (a + 1 + j)).2), some (vI ((a : Nat) : Int)), some (vI ((a + 1 + (j + 1) : Nat) : Int)), none]) ⟨rfl, rfl, rfl, rfl, rfl, trivial⟩ ?_
            exact ih (j + 1) _ (by omega) (by rw [shI, ← hs, if_pos (Or.inr c63)])
  have oa : ∀ (c a : Nat) (s : Int × Int), (a : Int) + c = ν.1 0 25 → s = shO (dP ν P) (ν.1 0 25).toNat a → ((-1 ≤ s.1 ∧ s.1 ≤ 60) ∧ (0 ≤ s.2 ∧ s.2 ≤ 1000)) → AW K 10 [some (vR 81), some (vI s.1), some (vI s.2), some (vI ((a : Nat) : Int)), none, none] [] μ2 := by
    intro c
    induction c with
    | zero =>
      intro a s ha hs hsr
      refine aw_iload_n hO dX2_bestPair_10 rfl rfl ?_
      refine aw_aload_n hO dX2_bestPair_11 rfl rfl ?_
      refine gC_X2_28_81 hO dX2_bestPair_12 rfl ?_
      refine gC_X2_40_25 hO dX2_bestPair_15 rfl ?_
      refine aw_cg hJ1.T.n ?_
      refine aw_icmp_ge (tgt := 89) hO dX2_bestPair_18 rfl rfl (inRn (by omega)) ⟨by omega, by omega⟩ (fun c18 => ?_) (fun c18 => ?_)
      · refine aw_iload_n hO dX2_bestPair_89 rfl rfl ?_
        refine aw_iret hO dX2_bestPair_90 ?_
        exact ⟨_, rfl, by rw [hs, show a = (ν.1 0 25).toNat by omega], hF1⟩
      · exact absurd c18 (by omega)
    | succ c ih =>
      intro a s ha hs hsr
      refine aw_iload_n hO dX2_bestPair_10 rfl rfl ?_
      refine aw_aload_n hO dX2_bestPair_11 rfl rfl ?_
      refine gC_X2_28_81 hO dX2_bestPair_12 rfl ?_
      refine gC_X2_40_25 hO dX2_bestPair_15 rfl ?_
      refine aw_cg hJ1.T.n ?_
      refine aw_icmp_ge (tgt := 89) hO dX2_bestPair_18 rfl rfl (inRn (by omega)) ⟨by omega, by omega⟩ (fun c18 => ?_) (fun c18 => ?_)
      · exact absurd c18 (by omega)
      · refine aw_iload_n hO dX2_bestPair_21 rfl rfl ?_
        refine aw_iconst hO dX2_bestPair_22 rfl ?_
        refine aw_iadd hO dX2_bestPair_23 rfl ?_
        refine aw_istore (ls' := [some (vR 81), some (vI s.1), some (vI s.2), some (vI ((a : Nat) : Int)), some (vI (((a : Nat) : Int) + 1)), none]) hO dX2_bestPair_24 rfl (Nat.le_of_ble_eq_true rfl) rfl rfl ?_
        refine aw_lsq (ls' := [some (vR 81), some (vI s.1), some (vI s.2), some (vI ((a : Nat) : Int)), some (vI ((a + 1 + 0 : Nat) : Int)), none]) rfl ?_
        refine ib a s (by omega) hsr (fun s2 hs2 => ?_) ((ν.1 0 25).toNat - 1 - a) 0 s (by omega) rfl
        refine aw_iinc (ls' := [some (vR 81), some (vI s2.1), some (vI s2.2), some (vI (((a : Nat) : Int) + 1)), none, none]) hO dX2_bestPair_83 rfl rfl rfl rfl ?_
        refine aw_lsq (ls' := [some (vR 81), some (vI s2.1), some (vI s2.2), some (vI (((a + 1) : Nat) : Int)), none, none]) rfl ?_
        refine aw_goto (tgt := 10) hO dX2_bestPair_86 rfl ?_
        refine aw_lsq (ls' := [some (vR 81), some (vI s2.1), some (vI s2.2), some (vI ((a + 1 : Nat) : Int)), none, none]) rfl ?_
        exact ih (a + 1) s2 (by omega) (by rw [shO, ← hs]; exact hs2) (by rw [hs2]; exact shI_rng (fun x y => dP_rng ν P x y) (by omega) hsr _ (by omega))
  refine aw_lsq (ls' := [some (vR 81), some (vI ((-1 : Int), (0 : Int)).1), some (vI ((-1 : Int), (0 : Int)).2), some (vI ((0 : Nat) : Int)), none, none]) rfl ?_
  exact oa (ν.1 0 25).toNat 0 (-1, 0) (by omega) rfl ⟨by decide, by decide⟩
