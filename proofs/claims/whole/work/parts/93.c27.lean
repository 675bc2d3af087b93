/-! ## a law is taken over; a town begins -/
def bgF (c : Int) (T : Nat) (a : Nat → Int) (i : Nat) : Int := if i = 3 then c else if 33 ≤ i ∧ i < 33 + T then a (i - 33) else 0
theorem bgF_up {c : Int} {T : Nat} {a : Nat → Int} : bgF c (T + 1) a = fu (bgF c T a) (33 + T) (a T) := by
  funext i
  unfold bgF fu
  dsimp only
  by_cases e : i = 33 + T
  · subst e
    rw [if_neg (by omega), if_pos (by omega), if_pos rfl, show 33 + T - 33 = T by omega]
  · rw [if_neg e]
    by_cases e3 : i = 3
    · rw [if_pos e3, if_pos e3]
    · rw [if_neg e3, if_neg e3]
      by_cases e4 : 33 ≤ i ∧ i < 33 + T
      · rw [if_pos e4, if_pos (by omega)]
      · rw [if_neg e4, if_neg (by omega)]
theorem dX4_copyFrom_0 : decode cX4_copyFrom 0 = .ok (.aload_n 1, 1) := by decide +kernel
theorem dX4_copyFrom_1 : decode cX4_copyFrom 1 = .ok (.getfield 11, 3) := by decide +kernel
theorem dX4_copyFrom_4 : decode cX4_copyFrom 4 = .ok (.iconst 0, 1) := by decide +kernel
theorem dX4_copyFrom_5 : decode cX4_copyFrom 5 = .ok (.aload_n 0, 1) := by decide +kernel
theorem dX4_copyFrom_6 : decode cX4_copyFrom 6 = .ok (.getfield 11, 3) := by decide +kernel
theorem dX4_copyFrom_9 : decode cX4_copyFrom 9 = .ok (.iconst 0, 1) := by decide +kernel
theorem dX4_copyFrom_10 : decode cX4_copyFrom 10 = .ok (.aload_n 1, 1) := by decide +kernel
theorem dX4_copyFrom_11 : decode cX4_copyFrom 11 = .ok (.getfield 18, 3) := by decide +kernel
theorem dX4_copyFrom_14 : decode cX4_copyFrom 14 = .ok (.invokestatic 22, 3) := by decide +kernel
theorem dX4_copyFrom_17 : decode cX4_copyFrom 17 = .ok (.aload_n 0, 1) := by decide +kernel
theorem dX4_copyFrom_18 : decode cX4_copyFrom 18 = .ok (.aload_n 1, 1) := by decide +kernel
theorem dX4_copyFrom_19 : decode cX4_copyFrom 19 = .ok (.getfield 18, 3) := by decide +kernel
theorem dX4_copyFrom_22 : decode cX4_copyFrom 22 = .ok (.putfield 18, 3) := by decide +kernel
theorem dX4_copyFrom_25 : decode cX4_copyFrom 25 = .ok (.return_, 1) := by decide +kernel
set_option maxHeartbeats 4000000 in
set_option maxRecDepth 100000 in
theorem cT_lcopy {μ : Mm} {k : Nat} (hk : Lob k) {X : List Int} (hX : Dr μ X) (hX2 : X.length ≤ 240) : CtV PC 1 yX4_copyFrom cX4_copyFrom 2 none [vR k, vR 9] μ (fun m => m = mst (mcp μ (k + 1) 10 0 0 X.length) k 2 ((X.length : Nat) : Int)) := by
  refine ct_intro [some (vR k), some (vR 9)] RX4 (by decide) rfl XCo rfl (Nat.le_of_ble_eq_true rfl) (fun K hO => ?_)
  refine aw_aload_n hO dX4_copyFrom_0 rfl rfl ?_
  refine gC_X4_11_9 hO dX4_copyFrom_1 rfl ?_
  refine aw_iconst hO dX4_copyFrom_4 rfl ?_
  refine aw_aload_n hO dX4_copyFrom_5 rfl rfl ?_
  refine aw_get (f := 0) hO dX4_copyFrom_6 rfl okX4 (by decide) (lw_t1 120 rfl rfl) hk.o.1 hk.o.2 rfl rfl ?_
  refine aw_iconst hO dX4_copyFrom_9 rfl ?_
  refine aw_aload_n hO dX4_copyFrom_10 rfl rfl ?_
  refine gC_X4_18_9 hO dX4_copyFrom_11 rfl ?_
  refine aw_cg hX.1 ?_
  refine aw_cpy (sp := 0) (dp := 0) (m := X.length) hO dX4_copyFrom_14 rfl (lw_t3 91 rfl rfl) cpw (by decide) rfl hk.a.1 hk.a.2 rfl (by decide) (by decide) rfl rfl (by omega) (by omega) (by omega) (by omega) rfl (Nat.le_of_ble_eq_true rfl) ?_
  refine aw_mm (fun μ1 e_μ1 => ?_)
  refine aw_aload_n hO dX4_copyFrom_17 rfl rfl ?_
  refine aw_aload_n hO dX4_copyFrom_18 rfl rfl ?_
  refine gC_X4_18_9 hO dX4_copyFrom_19 rfl ?_
  refine aw_cg (show μ1.1 9 2 = ((X.length : Nat) : Int) from (by rw [e_μ1, mcp_nk (by rcases hk with rfl | rfl | rfl | rfl <;> decide)]; exact hX.1)) ?_
  refine aw_put (f := 2) hO dX4_copyFrom_22 rfl okX4 tyX4_ok nmX4 (by decide) (lw_t1 122 rfl rfl) rfl rfl rfl hk.o.1 hk.o.2 rfl ?_
  refine aw_mm (fun μ2 e_μ2 => ?_)
  refine aw_vret hO dX4_copyFrom_25 ?_
  exact ⟨rfl, by rw [e_μ2, e_μ1]⟩
theorem dX7_begin_0 : decode cX7_begin 0 = .ok (.aload_n 0, 1) := by decide +kernel
theorem dX7_begin_1 : decode cX7_begin 1 = .ok (.getfield 11, 3) := by decide +kernel
theorem dX7_begin_4 : decode cX7_begin 4 = .ok (.iconst 0, 1) := by decide +kernel
theorem dX7_begin_5 : decode cX7_begin 5 = .ok (.invokestatic 15, 3) := by decide +kernel
theorem dX7_begin_8 : decode cX7_begin 8 = .ok (.aload_n 0, 1) := by decide +kernel
theorem dX7_begin_9 : decode cX7_begin 9 = .ok (.getfield 11, 3) := by decide +kernel
theorem dX7_begin_12 : decode cX7_begin 12 = .ok (.iconst 3, 1) := by decide +kernel
theorem dX7_begin_13 : decode cX7_begin 13 = .ok (.aload_n 1, 1) := by decide +kernel
theorem dX7_begin_14 : decode cX7_begin 14 = .ok (.invokevirtual 21, 3) := by decide +kernel
theorem dX7_begin_17 : decode cX7_begin 17 = .ok (.iastore, 1) := by decide +kernel
theorem dX7_begin_18 : decode cX7_begin 18 = .ok (.iconst 0, 1) := by decide +kernel
theorem dX7_begin_19 : decode cX7_begin 19 = .ok (.istore_n 2, 1) := by decide +kernel
theorem dX7_begin_20 : decode cX7_begin 20 = .ok (.iload_n 2, 1) := by decide +kernel
theorem dX7_begin_21 : decode cX7_begin 21 = .ok (.aload_n 1, 1) := by decide +kernel
theorem dX7_begin_22 : decode cX7_begin 22 = .ok (.getfield 27, 3) := by decide +kernel
theorem dX7_begin_25 : decode cX7_begin 25 = .ok (.if_icmp .ge 23, 3) := by decide +kernel
theorem dX7_begin_28 : decode cX7_begin 28 = .ok (.aload_n 0, 1) := by decide +kernel
theorem dX7_begin_29 : decode cX7_begin 29 = .ok (.getfield 11, 3) := by decide +kernel
theorem dX7_begin_32 : decode cX7_begin 32 = .ok (.bipush 33, 2) := by decide +kernel
theorem dX7_begin_34 : decode cX7_begin 34 = .ok (.iload_n 2, 1) := by decide +kernel
theorem dX7_begin_35 : decode cX7_begin 35 = .ok (.iadd, 1) := by decide +kernel
theorem dX7_begin_36 : decode cX7_begin 36 = .ok (.aload_n 1, 1) := by decide +kernel
theorem dX7_begin_37 : decode cX7_begin 37 = .ok (.iload_n 2, 1) := by decide +kernel
theorem dX7_begin_38 : decode cX7_begin 38 = .ok (.invokevirtual 31, 3) := by decide +kernel
theorem dX7_begin_41 : decode cX7_begin 41 = .ok (.iastore, 1) := by decide +kernel
theorem dX7_begin_42 : decode cX7_begin 42 = .ok (.iinc 2 1, 3) := by decide +kernel
theorem dX7_begin_45 : decode cX7_begin 45 = .ok (.goto (-25), 3) := by decide +kernel
theorem dX7_begin_48 : decode cX7_begin 48 = .ok (.return_, 1) := by decide +kernel
set_option maxRecDepth 100000 in
theorem gC_X7_27_25 {Q : Option AV → Mm → Prop} {K : KT} {cc : ByteArray} {nL d : Nat} {ret : Option FieldType} {pc n : Nat} {ls : List (Option AV)} {st : List AV} {μ : Mm} (hO : KOk PC Q K cc RX7 nL d ret) (hd : decode cc pc = .ok (.getfield 27, 3)) (hn : pc + 3 = n) (kk : AW K n ls (vI (μ.1 25 2) :: st) μ) : AW K pc ls (vR 25 :: st) μ := aw_getN (f := 2) hO hd hn okX9 (by decide) (lw_t1n 85 rfl rfl) (by decide) rfl rfl rfl kk
set_option maxRecDepth 100000 in
theorem gC_X7_11_27 {Q : Option AV → Mm → Prop} {K : KT} {cc : ByteArray} {nL d : Nat} {ret : Option FieldType} {pc n : Nat} {ls : List (Option AV)} {st : List AV} {μ : Mm} (hO : KOk PC Q K cc RX7 nL d ret) (hd : decode cc pc = .ok (.getfield 11, 3)) (hn : pc + 3 = n) (kk : AW K n ls (vR 28 :: st) μ) : AW K pc ls (vR 27 :: st) μ := aw_get (f := 0) hO hd hn okX7 (by decide) (lw_t1 149 rfl rfl) (by decide) rfl rfl rfl kk
set_option maxHeartbeats 4000000 in
set_option maxRecDepth 100000 in
theorem cT_begin {μ : Mm} {T : Nat} (hT : μ.1 25 2 = (T : Int)) (hT5 : T ≤ 5) : CtV PC 1 yX7_begin cX7_begin 3 none [vR 27, vR 25] μ (fun m => Fr (fun k _ => k = 28) μ m ∧ ∀ i, i < 98 → m.1 28 i = bgF (μ.1 26 3) T (fun t => μ.1 26 (28 + 4 * t + 1)) i) := by
  refine ct_intro [some (vR 27), some (vR 25), none] RX7 (by decide) rfl XCo rfl (Nat.le_of_ble_eq_true rfl) (fun K hO => ?_)
  have lp : ∀ (c0 : Nat) (t : Nat) (m : Mm), (t + c0 = T) → (Fr (fun k _ => k = 28) μ m ∧ ∀ i, i < 98 → m.1 28 i = bgF (μ.1 26 3) t (fun t => μ.1 26 (28 + 4 * t + 1)) i) → AW K 20 [some (vR 27), some (vR 25), some (vI ((t : Nat) : Int))] [] m := by
    intro c0
    induction c0 with
    | zero =>
      intro t m ht hm
      refine aw_iload_n hO dX7_begin_20 rfl rfl ?_
      refine aw_aload_n hO dX7_begin_21 rfl rfl ?_
      refine gC_X7_27_25 hO dX7_begin_22 rfl ?_
      refine aw_cg (show m.1 25 2 = ((T : Nat) : Int) from (by rw [hm.1.1 25 2 (by decide)]; exact hT)) ?_
      refine aw_icmp_ge (tgt := 48) hO dX7_begin_25 rfl rfl (inRn (by omega)) (inRn (by omega)) (fun c25 => ?_) (fun c25 => ?_)
      · refine aw_vret hO dX7_begin_48 ?_
        exact ⟨rfl, hm.1, fun i hi => by rw [hm.2 i hi, show t = T by omega]⟩
      · exact absurd c25 (by omega)
    | succ c0 ih =>
      intro t m ht hm
      refine aw_iload_n hO dX7_begin_20 rfl rfl ?_
      refine aw_aload_n hO dX7_begin_21 rfl rfl ?_
      refine gC_X7_27_25 hO dX7_begin_22 rfl ?_
      refine aw_cg (show m.1 25 2 = ((T : Nat) : Int) from (by rw [hm.1.1 25 2 (by decide)]; exact hT)) ?_
      refine aw_icmp_ge (tgt := 48) hO dX7_begin_25 rfl rfl (inRn (by omega)) (inRn (by omega)) (fun c25 => ?_) (fun c25 => ?_)
      · exact absurd c25 (by omega)
      · refine aw_aload_n hO dX7_begin_28 rfl rfl ?_
        refine gC_X7_11_27 hO dX7_begin_29 rfl ?_
        refine aw_bipush hO dX7_begin_32 rfl (by decide) (by decide) ?_
        refine aw_iload_n hO dX7_begin_34 rfl rfl ?_
        refine aw_iadd hO dX7_begin_35 rfl ?_
        refine aw_aload_n hO dX7_begin_36 rfl rfl ?_
        refine aw_iload_n hO dX7_begin_37 rfl rfl ?_
        refine aw_callVI (as := [vI ((t : Nat) : Int)]) (st := [vI (33 + ((t : Nat) : Int)), vR 28]) hO dX7_begin_38 rfl (lw_t3 75 rfl rfl) kX9_asksAtFirst (T := TX9) rfl (by decide) rfl (ctC_9_asksAtFirst m (p := t) (by omega)) (by decide) rfl rfl rfl (Nat.le_of_ble_eq_true rfl) ?_
        refine aw_cg (show m.1 26 (28 + 4 * t + 1) = μ.1 26 (28 + 4 * t + 1) from hm.1.1 26 _ (show ¬ (26 = 28) by decide)) ?_
        refine aw_iastn (N := 98) (i := (33 + t)) hO dX7_begin_41 rfl (by decide) rfl (by decide) (by omega) (by omega) ?_
        refine aw_mm (fun μ1 e_μ1 => ?_)
        refine aw_iinc (ls' := [some (vR 27), some (vR 25), some (vI (((t : Nat) : Int) + 1))]) hO dX7_begin_42 rfl rfl rfl rfl ?_
        refine aw_lsq (ls' := [some (vR 27), some (vR 25), some (vI (((t + 1) : Nat) : Int))]) rfl ?_
        refine aw_goto (tgt := 20) hO dX7_begin_45 rfl ?_
        refine aw_lsq (ls' := [some (vR 27), some (vR 25), some (vI ((t + 1 : Nat) : Int))]) rfl ?_
        exact ih (t + 1) μ1 (by omega) ⟨by rw [e_μ1]; exact hm.1.st rfl _, fun i hi => by rw [e_μ1, mst_fu, bgF_up]; unfold fu; split; rfl; exact hm.2 i hi⟩
  refine aw_aload_n hO dX7_begin_0 rfl rfl ?_
  refine gC_X7_11_27 hO dX7_begin_1 rfl ?_
  refine aw_iconst hO dX7_begin_4 rfl ?_
  refine aw_callSV (as := [vR 28, vI 0]) (st := []) hO dX7_begin_5 rfl (lw_t3 70 rfl rfl) kJ7_fill_53178 (ctC_fill μ (r := 28) (N := 98) (v := 0) (by decide) rfl (by decide)) (by decide) rfl rfl rfl (Nat.le_of_ble_eq_true rfl) (fun μ3 hq4 => ?_)
  have e_μ3 := hq4
  refine aw_aload_n hO dX7_begin_8 rfl rfl ?_
  refine gC_X7_11_27 hO dX7_begin_9 rfl ?_
  refine aw_iconst hO dX7_begin_12 rfl ?_
  refine aw_aload_n hO dX7_begin_13 rfl rfl ?_
  refine aw_callVI (as := []) (st := [vI 3, vR 28]) hO dX7_begin_14 rfl (lw_t3 71 rfl rfl) kX9_coins (T := TX9) rfl (by decide) rfl (ctC_9_coins μ3) (by decide) rfl rfl rfl (Nat.le_of_ble_eq_true rfl) ?_
  refine aw_cg (show μ3.1 26 3 = μ.1 26 3 by rw [e_μ3, mfl_nk (by decide)]) ?_
  refine aw_iastn (N := 98) (i := 3) hO dX7_begin_17 rfl (by decide) rfl (by decide) rfl (by decide) ?_
  refine aw_mm (fun μ5 e_μ5 => ?_)
  refine aw_iconst hO dX7_begin_18 rfl ?_
  refine aw_istore_n (ls' := [some (vR 27), some (vR 25), some (vI 0)]) hO dX7_begin_19 rfl (Nat.le_of_ble_eq_true rfl) rfl rfl ?_
  refine aw_lsq (ls' := [some (vR 27), some (vR 25), some (vI ((0 : Nat) : Int))]) rfl ?_
  exact lp T 0 μ5 (by omega) ⟨⟨fun k i hk => by rw [e_μ5, mst_nk hk, e_μ3, mfl_nk hk], by rw [e_μ5, e_μ3]; rfl⟩, fun i hi => by rw [e_μ5, mst_fu]; unfold fu bgF; split; rfl; rw [if_neg (by omega), e_μ3, mfl_in (by omega) (by omega)]⟩
