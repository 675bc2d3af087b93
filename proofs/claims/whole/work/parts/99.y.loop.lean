/-! ## a person, on both; the loop -/
theorem Rel.thr {μ ν : Mm} (h : Rel μ ν) (v : Int) : Rel μ (mst ν 0 0 v) := by
  have hC : Fq (fun k i => k = 1000 ∧ i = 1000) μ μ := Fq.rf
  have hR : Fq (fun k i => k = 0 ∧ i = 0) ν (mst ν 0 0 v) := fun k i hn => if_neg hn
  refine ⟨⟨fqB h.B hR ?_ ?_ ?_ ?_ ?_ ?_, fqT h.T hC hR ?_ ?_ ?_ ?_ ?_ ?_ ?_, fqS h.S hC hR ?_ ?_ ?_⟩, ⟨fqI h.I hC hR ?_ ?_ ?_ ?_ ?_, fqA h.A hC hR ?_ ?_ ?_ ?_ ?_ ?_⟩, fqL h.L hC hR rfl ?_ ?_ (fun j hj => ⟨?_, fun i => ?_⟩) ?_ ?_ (fun c hc hcc j hj => ⟨fun i h1 h2 => ⟨?_, ?_⟩, ?_, ?_, fun i h1 h2 => ⟨?_, ?_, ?_⟩⟩), fqP h.P hC hR ?_ ?_ ?_ ?_, fqG h.G hC hR ?_ ?_ ?_ ?_ ?_ ?_ ?_ ?_ ?_, fqN h.N hC hR ?_ ?_ ?_ ?_ ?_ ?_⟩
  all_goals (intros; omega)
section
variable {K : LT} {pc n i : Nat} {lv : List (Nat × Value)} {st : List Value} {μ ν : Mm} {f : Nat → Int64} {ce sl : Nat}
set_option maxRecDepth 100000 in
theorem cw_per (hO : LOk K) : vx_CSW room_1 K.s #[Value.ref K.b] R_law 42 yL_person cL_person 5 (some .int) [(0, 10, 13, 13)] (cwP :: lw_g) (rmn 9 1 6) 1 6 4 := by
  refine vx_cwSW (Ts := lw_g) 4 hO.hts (fun w hw => ?_) rfl rfl rfl (by decide +kernel) ⟨by decide, by decide⟩
  have hw : w ∈ [Cond.methodLink R_law 42 yL_person, Cond.static yL_person, Cond.initialized yL_person.cls] ++ (cwP :: lw_g) := hw
  rcases List.mem_append.mp hw with h | h
  · have hm : w ∈ lw_g := by
      simp only [List.mem_cons, List.not_mem_nil, or_false] at h
      rcases h with rfl | rfl | rfl
      · exact (lw_t5 133 rfl rfl)
      · exact (lw_t5 134 rfl rfl)
      · exact (lw_t1 0 rfl rfl)
    exact lw_good w hm
  · rcases List.mem_cons.mp h with rfl | h
    · exact lw_good _ cwP_in
    · exact lw_good w h
theorem lw_lper {v u : Int} (hO : LOk K) (h : Rel μ ν) (hv : InR v) (hu : InR u) (hd : decode code pc = .ok (.invokestatic 42, 3)) (hn : pc + 3 = n) (hce : ce ≤ 600000) (hsl : sl ≤ 7000000)
    (kk : ∀ (k : Int) (f' : Nat → Int64), (((0 ≤ v ∧ v < ν.1 0 25) ∧ (0 ≤ u ∧ u ≤ 6) → k = 0 ∧ f' 0 = (iI (perM ν v u)).toInt64) ∧ (¬ ((0 ≤ v ∧ v < ν.1 0 25) ∧ (0 ≤ u ∧ u ≤ 6)) → k = 1)) → LW K n lv [.int (iI k)] μ ν f' (ce + 1) (sl + 6)) : LW K pc lv [.ref K.o, .int (iI u), .int (iI v), .ref (K.q 0)] μ ν f ce sl := by
  subst hn
  intro H locs Ls hP hS hl
  have hPo : va_P K.D vwCl ((K.o, loE K.co f) :: wld PC K.q K.ca μ) H := fun k x hx => by
    match k, hx with
    | 0, hx => cases hx; exact lwd_Po hP
    | k + 1, hx => exact lwd_PC hP k x hx
  have hD : va_D K.A ((K.o, loE K.co f) :: wld PC K.q K.ca μ) := (hO.2.2.1 μ nu0 f).by (fun k => k) (fun k x hx => by
    match k, hx with
    | 0, hx => cases hx; rfl
    | k + 1, hx =>
      obtain ⟨hk, rfl⟩ := wld_get_inv (show (wld PC K.q K.ca μ)[k]? = some x from hx)
      exact lwd_C hk) (fun i j _ _ e => e)
  have hrun := vx_runSX (l := K.l) (e := K.e) (R := room_1) (below := K.below) (meth := K.meth) (locs := locs) (cells := ce) (slots := sl) (H := H) (g := F0 K.m pc Ls [.ref K.o, .int (iI u), .int (iI v), .ref (K.q 0)]) (As := [.ref (K.q 0), .int (iI v), .int (iI u), .ref K.o]) (rest := []) hO.fix (lp_person h hv hu K.l hO.1.2.2 K.q K.ca K.D H.size K.s.heap.size K.o K.co f) (cw_per hO) ⟨fun a U g mk z => by
    obtain ⟨z1, z2, z3, z4, z5, z6, z7, z8, z9⟩ := z
    exact ⟨z1, z2, z3, va_K.moved (u := U) (U := U.calling g mk a) (Vm.Alike.refl U.vm) z4, va_K.moved (u := U) (U := U.calling g mk a) (Vm.Alike.refl U.vm) z5, z6, z7.mv (u := U) (U := U.calling g mk a) (Or.inl rfl) (fun _ _ _ => rfl), z8, NW.same (u := U) (U := U.calling g mk a) rfl z9⟩, fun U hU hW => ⟨rfl, by rw [hU], by rw [hU]; exact hPo, va_K.moved hW.alike hO.2.1.1, va_K.moved hW.alike hO.2.1.2.2, hD, hO.2.2.2.1.mv (Or.inr hW) (fun a h1 h2 => by rw [hU]; exact hS.2.1 a h1 h2), hS.1, NW.warm hW hO.2.2.2.2⟩⟩ rfl rfl hl.1 rfl (Nat.le_of_ble_eq_true rfl) hd ⟨by show ce + 1 ≤ 601024; omega, by show sl + 6 ≤ 7293034; omega⟩
  intro T hT X
  rcases hrun T hT X with ⟨v0, st₀, t, T', L, h0, X', hL, e1, e2, ⟨⟨k, f', hv0, hkf, hP1⟩, hz, hk⟩, stp⟩ | ⟨_, _, _, _, _, _, _, _, _, _, _, _, hF, _⟩
  · cases hv0
    rw [h0] at hz hk
    rw [← e1] at hz hk hP1
    have hAA : ∀ a, va_A ((K.o, loE K.co f) :: wld PC K.q K.ca μ) H.size a → K.A a := fun a z => by
      rcases z with ⟨j, x, hj⟩ | z
      · exact hD.2 j _ hj
      · exact Nat.le_trans hS.1 z
    have hPM' : va_P K.D vwCl (wld PM K.r K.cr ν) T'.heap := (lwd_PM hP).kept (fun j x hx => by
      have hlt := ((lwd_PM hP) j _ hx).lt
      obtain ⟨hj, rfl⟩ := wld_get_inv hx
      refine hk _ hlt (fun z => ?_)
      rcases z with ⟨k2, x2, hk2⟩ | z
      · match k2, hk2 with
        | 0, hk2 =>
          have e9 : K.o = K.r j := congrArg Prod.fst (Option.some.inj hk2)
          exact hO.ne_ro hj e9.symm
        | k2 + 1, hk2 =>
          obtain ⟨hk3, e9⟩ := wld_get_inv (show (wld PC K.q K.ca μ)[k2]? = some (K.r j, x2) from hk2)
          exact hO.ne_r hk3 hj (congrArg Prod.fst e9).symm
      · exact absurd hlt (Nat.not_lt.mpr z))
    have hS' : va_S K.A K.s.heap T'.heap (locs ++ L) := ⟨Nat.le_trans hS.1 hz, fun a h1 h2 => by
      rw [hk a (Nat.lt_of_lt_of_le h1 hS.1) (fun z => h2 (hAA a z))]
      exact hS.2.1 a h1 h2, fun x hx => by
      rcases List.mem_append.mp hx with h | h
      · exact hS.2.2 x h
      · exact hAA _ (hL x h)⟩
    obtain ⟨t2, a1, b1⟩ := kk k f' hkf T'.heap (locs ++ L) Ls (lwd_mk (hP1 0 _ rfl) (fun j x hx => hP1 (j + 1) x hx) hPM') hS' hl T' rfl X'
    exact ⟨t2, stp t2 a1, b1⟩
  · exact hF.elim
theorem lw_lald (hO : LOk K) (hd : decode code pc = .ok (.laload, 1)) (hn : pc + 1 = n) (kk : LW K n lv (.long (f 0) :: st) μ ν f ce sl) : LW K pc lv (.int (iI 0) :: .ref K.o :: st) μ ν f ce sl := by
  subst hn
  intro H locs Ls hP hS hl
  have hP1 : va_P K.D vwCl [(K.o, loE K.co f)] H := fun k x hx => by
    have hz : k < 1 := (List.getElem?_eq_some_iff.mp hx).1
    rw [show k = 0 by omega] at hx
    cases hx
    exact lwd_Po hP
  exact va_lald hO.hx hO.hb hO.2.1.2.2 hP1 0 0 rfl rfl (iI_in (a := 0) (by decide) (by decide) (by decide)) hd (kk H locs Ls hP hS hl)
theorem lw_lcmp {x : Int64} (hO : LOk K) (hd : decode code pc = .ok (.lcmp, 1)) (hn : pc + 1 = n) (kk : LW K n lv (.int 0 :: st) μ ν f ce sl) : LW K pc lv (.long x :: .long x :: st) μ ν f ce sl := by
  subst hn
  intro H locs Ls hP hS hl
  refine W.lcmp hO.hx hO.hb hd ?_
  have e : lg_cmp x x = 0 := by simp [lg_cmp, Int64.lt_irrefl]
  rw [e]
  exact kk H locs Ls hP hS hl
end
set_option maxRecDepth 100000 in
theorem lc_5 {K : LT} {μ ν : Mm} {f : Nat → Int64} {i ce sl : Nat} (hO : LOk K) (h : Rel μ ν) (hi : i + 6 ≤ K.L) (hce : ce + 1 ≤ 600000) (hsl : sl + 6 ≤ 7000000) (kk : ∀ μ' ν' f', Rel μ' ν' → LW K 1342 (LV K i) [] μ' ν' f' (ce + 1) (sl + 6)) : LW K 369 (LV K i) [] μ ν f ce sl := by
  refine lw_al 1 hO dLw_369 rfl rfl ?_
  refine lw_ld 1 hO dLw_370 dLw_371 dLw_373 dLw_374 dLw_375 rfl rfl (by omega) 0 4 rfl rfl ?_
  refine lw_ld 2 hO dLw_376 dLw_377 dLw_379 dLw_380 dLw_381 rfl rfl (by omega) 0 4 rfl rfl ?_
  refine lw_al 3 hO dLw_382 rfl rfl ?_
  refine lw_lper hO h (xI_R K (i + 1)) (xI_R K (i + 2)) dLw_383 rfl (by omega) (by omega) (fun k f' hk => ?_)
  refine lw_st (lv' := [(5, .int (iI k)), (0, .ref K.b), (1, .ref (K.q 0)), (2, .ref (K.r 0)), (3, .ref K.o), (4, .int (iI (i : Int)))]) hO dLw_386 rfl (by decide) rfl ?_
  refine lw_al 3 hO dLw_388 rfl rfl ?_
  refine lw_ld 1 hO dLw_389 dLw_390 dLw_392 dLw_393 dLw_394 rfl rfl (by omega) 1 5 rfl rfl ?_
  refine lw_ld 2 hO dLw_395 dLw_396 dLw_398 dLw_399 dLw_400 rfl rfl (by omega) 1 5 rfl rfl ?_
  refine lw_callM (as := [vI (xI K (i + 1)), vI (xI K (i + 2))]) (st := []) (T0 := TX12) hO dLw_401 rfl (lw_t7 17 rfl rfl) kX12_person rfl (ctM_person ν h.B (xI_R K (i + 1)) (xI_R K (i + 2))) rfl (Nat.le_of_ble_eq_true rfl) (by decide) (by omega) (by omega) (fun r n' hr => ?_)
  refine lw_st (lv' := [(6, .int (iI r)), (5, .int (iI k)), (0, .ref K.b), (1, .ref (K.q 0)), (2, .ref (K.r 0)), (3, .ref K.o), (4, .int (iI (i : Int)))]) hO dLw_404 rfl (by decide) rfl ?_
  refine lw_al 4 hO dLw_406 rfl rfl ?_
  refine lw_callM (as := []) (st := []) (T0 := TX12) hO dLw_407 rfl (lw_t6 114 rfl rfl) kX12_thrown rfl (ctI_E (ctM_thrown n')) rfl (Nat.le_of_ble_eq_true rfl) (by decide) (by omega) (by omega) (fun r2 n2 hr2 => ?_)
  obtain ⟨hr2a, hr2b⟩ := hr2
  subst hr2b
  obtain ⟨hra, hrb⟩ := hr
  have hrel : Rel μ n2 := by
    rw [hrb]
    exact h.thr _
  have h00 : r2 = k := by
    rw [hr2a, hrb, mst_eq]
    by_cases hc : (0 ≤ (xI K (i + 1)) ∧ (xI K (i + 1)) < ν.1 0 25) ∧ (0 ≤ (xI K (i + 2)) ∧ (xI K (i + 2)) ≤ 6)
    · rw [if_pos hc]; exact (hk.1 hc).1.symm
    · rw [if_neg hc]; exact (hk.2 hc).symm
  subst h00
  refine lw_il 1 hO dLw_410 rfl rfl ?_
  refine lw_eq (tgt := 417) hO dLw_412 rfl ?_
  refine lw_il 1 hO dLw_417 rfl rfl ?_
  by_cases hc : (0 ≤ (xI K (i + 1)) ∧ (xI K (i + 1)) < ν.1 0 25) ∧ (0 ≤ (xI K (i + 2)) ∧ (xI K (i + 2)) ≤ 6)
  · have hk0 := (hk.1 hc).1
    have hf0 := (hk.1 hc).2
    refine lw_cneF (tgt := 434) hO dLw_419 rfl rfl (by rw [hk0]; rfl) ?_
    refine lw_al 5 hO dLw_422 rfl rfl ?_
    refine lw_ic hO dLw_423 rfl ?_
    refine lw_lald hO dLw_424 rfl ?_
    refine lw_il 0 hO dLw_425 rfl rfl ?_
    refine lw_i2l hO dLw_427 rfl ?_
    rw [hf0, hra hc]
    refine lw_lcmp hO dLw_428 rfl ?_
    refine lw_ceqT (tgt := 434) hO dLw_429 rfl rfl ?_
    refine lw_go (tgt := 1342) hO dLw_434 rfl ?_
    exact lw_lv [2, 3, 4, 5, 6] rfl (kk _ _ _ hrel)
  · have hk1 := hk.2 hc
    refine lw_cneT (tgt := 434) hO dLw_419 rfl (by rw [hk1]; decide) ?_
    refine lw_go (tgt := 1342) hO dLw_434 rfl ?_
    exact lw_lv [2, 3, 4, 5, 6] rfl (kk _ _ _ hrel)
set_option maxRecDepth 100000 in
theorem lw_sw {K : LT} {μ ν : Mm} {f : Nat → Int64} {i ce sl : Nat} (hO : LOk K) (h : Rel μ ν) (hi : i + 6 ≤ K.L) (hce : ce + 1 ≤ 600000) (hsl : sl + 6 ≤ 7000000) (kk : ∀ μ' ν' f', Rel μ' ν' → LW K 1342 (LV K i) [] μ' ν' f' (ce + 1) (sl + 6)) : LW K 33 (LV K i) [] μ ν f ce sl := by
  intro H locs Ls hP hS hl
  have hLL := hO.1.2.1
  refine lv_aload_n hO.hx hO.hb dLw_33 rfl (lv_at hl 0 rfl) ?_
  refine lv_iload hO.hx hO.hb dLw_34 (lv_at hl 4 rfl) ?_
  refine va_sld hO.hx hO.hb hO.1.1.2.2.2.2.2.2.1 hO.1.1.2.2.2.2.2.2.2.1 (Nat.not_le.mpr hO.1.1.2.2.2.2.2.2.2.1) hS (iI_in (n := K.L) (by omega) (by omega) (by omega)) dLw_36 ?_
  refine lv_bipush (v := 63) hO.hx hO.hb dLw_37 (by decide) ?_
  refine lv_iand hO.hx hO.hb dLw_39 ?_
  obtain ⟨j, hj, ej⟩ := pk_andE (K.xs (iI (i : Int)).toNatClampNeg) (m := 63) 6 (by decide)
  rw [ej]
  by_cases hj35 : j < 35
  · match j, hj35 with
    | 0, _ => exact lv_tableIn (tgt := 196) hO.hx hO.hb dLw_40 (by decide) (by decide) rfl rfl (lc_0 hO h hi hce hsl kk H locs Ls hP hS hl)
    | 1, _ => exact lv_tableIn (tgt := 269) hO.hx hO.hb dLw_40 (by decide) (by decide) rfl rfl (lc_1 hO h hi hce hsl kk H locs Ls hP hS hl)
    | 2, _ => exact lv_tableIn (tgt := 294) hO.hx hO.hb dLw_40 (by decide) (by decide) rfl rfl (lc_2 hO h hi hce hsl kk H locs Ls hP hS hl)
    | 3, _ => exact lv_tableIn (tgt := 319) hO.hx hO.hb dLw_40 (by decide) (by decide) rfl rfl (lc_3 hO h hi hce hsl kk H locs Ls hP hS hl)
    | 4, _ => exact lv_tableIn (tgt := 344) hO.hx hO.hb dLw_40 (by decide) (by decide) rfl rfl (lc_4 hO h hi hce hsl kk H locs Ls hP hS hl)
    | 5, _ => exact lv_tableIn (tgt := 369) hO.hx hO.hb dLw_40 (by decide) (by decide) rfl rfl (lc_5 hO h hi hce hsl kk H locs Ls hP hS hl)
    | 6, _ => exact lv_tableIn (tgt := 437) hO.hx hO.hb dLw_40 (by decide) (by decide) rfl rfl (lc_6 hO h hi hce hsl kk H locs Ls hP hS hl)
    | 7, _ => exact lv_tableIn (tgt := 474) hO.hx hO.hb dLw_40 (by decide) (by decide) rfl rfl (lc_7 hO h hi hce hsl kk H locs Ls hP hS hl)
    | 8, _ => exact lv_tableIn (tgt := 499) hO.hx hO.hb dLw_40 (by decide) (by decide) rfl rfl (lc_8 hO h hi hce hsl kk H locs Ls hP hS hl)
    | 9, _ => exact lv_tableIn (tgt := 524) hO.hx hO.hb dLw_40 (by decide) (by decide) rfl rfl (lc_9 hO h hi hce hsl kk H locs Ls hP hS hl)
    | 10, _ => exact lv_tableIn (tgt := 561) hO.hx hO.hb dLw_40 (by decide) (by decide) rfl rfl (lc_10 hO h hi hce hsl kk H locs Ls hP hS hl)
    | 11, _ => exact lv_tableIn (tgt := 586) hO.hx hO.hb dLw_40 (by decide) (by decide) rfl rfl (lc_11 hO h hi hce hsl kk H locs Ls hP hS hl)
    | 12, _ => exact lv_tableIn (tgt := 611) hO.hx hO.hb dLw_40 (by decide) (by decide) rfl rfl (lc_12 hO h hi hce hsl kk H locs Ls hP hS hl)
    | 13, _ => exact lv_tableIn (tgt := 636) hO.hx hO.hb dLw_40 (by decide) (by decide) rfl rfl (lc_13 hO h hi hce hsl kk H locs Ls hP hS hl)
    | 14, _ => exact lv_tableIn (tgt := 661) hO.hx hO.hb dLw_40 (by decide) (by decide) rfl rfl (lc_14 hO h hi hce hsl kk H locs Ls hP hS hl)
    | 15, _ => exact lv_tableIn (tgt := 730) hO.hx hO.hb dLw_40 (by decide) (by decide) rfl rfl (lc_15 hO h hi hce hsl kk H locs Ls hP hS hl)
    | 16, _ => exact lv_tableIn (tgt := 755) hO.hx hO.hb dLw_40 (by decide) (by decide) rfl rfl (lc_16 hO h hi hce hsl kk H locs Ls hP hS hl)
    | 17, _ => exact lv_tableIn (tgt := 768) hO.hx hO.hb dLw_40 (by decide) (by decide) rfl rfl (lc_17 hO h hi hce hsl kk H locs Ls hP hS hl)
    | 18, _ => exact lv_tableIn (tgt := 805) hO.hx hO.hb dLw_40 (by decide) (by decide) rfl rfl (lc_18 hO h hi hce hsl kk H locs Ls hP hS hl)
    | 19, _ => exact lv_tableIn (tgt := 830) hO.hx hO.hb dLw_40 (by decide) (by decide) rfl rfl (lc_19 hO h hi hce hsl kk H locs Ls hP hS hl)
    | 20, _ => exact lv_tableIn (tgt := 855) hO.hx hO.hb dLw_40 (by decide) (by decide) rfl rfl (lc_20 hO h hi hce hsl kk H locs Ls hP hS hl)
    | 21, _ => exact lv_tableIn (tgt := 880) hO.hx hO.hb dLw_40 (by decide) (by decide) rfl rfl (lc_21 hO h hi hce hsl kk H locs Ls hP hS hl)
    | 22, _ => exact lv_tableIn (tgt := 917) hO.hx hO.hb dLw_40 (by decide) (by decide) rfl rfl (lc_22 hO h hi hce hsl kk H locs Ls hP hS hl)
    | 23, _ => exact lv_tableIn (tgt := 982) hO.hx hO.hb dLw_40 (by decide) (by decide) rfl rfl (lc_23 hO h hi hce hsl kk H locs Ls hP hS hl)
    | 24, _ => exact lv_tableIn (tgt := 1007) hO.hx hO.hb dLw_40 (by decide) (by decide) rfl rfl (lc_24 hO h hi hce hsl kk H locs Ls hP hS hl)
    | 25, _ => exact lv_tableIn (tgt := 1020) hO.hx hO.hb dLw_40 (by decide) (by decide) rfl rfl (lc_25 hO h hi hce hsl kk H locs Ls hP hS hl)
    | 26, _ => exact lv_tableIn (tgt := 1045) hO.hx hO.hb dLw_40 (by decide) (by decide) rfl rfl (lc_26 hO h hi hce hsl kk H locs Ls hP hS hl)
    | 27, _ => exact lv_tableIn (tgt := 1118) hO.hx hO.hb dLw_40 (by decide) (by decide) rfl rfl (lc_27 hO h hi hce hsl kk H locs Ls hP hS hl)
    | 28, _ => exact lv_tableIn (tgt := 1167) hO.hx hO.hb dLw_40 (by decide) (by decide) rfl rfl (lc_28 hO h hi hce hsl kk H locs Ls hP hS hl)
    | 29, _ => exact lv_tableIn (tgt := 1204) hO.hx hO.hb dLw_40 (by decide) (by decide) rfl rfl (lc_29 hO h hi hce hsl kk H locs Ls hP hS hl)
    | 30, _ => exact lv_tableIn (tgt := 1229) hO.hx hO.hb dLw_40 (by decide) (by decide) rfl rfl (lc_30 hO h hi hce hsl kk H locs Ls hP hS hl)
    | 31, _ => exact lv_tableIn (tgt := 1266) hO.hx hO.hb dLw_40 (by decide) (by decide) rfl rfl (lc_31 hO h hi hce hsl kk H locs Ls hP hS hl)
    | 32, _ => exact lv_tableIn (tgt := 1291) hO.hx hO.hb dLw_40 (by decide) (by decide) rfl rfl (lc_32 hO h hi hce hsl kk H locs Ls hP hS hl)
    | 33, _ => exact lv_tableIn (tgt := 1304) hO.hx hO.hb dLw_40 (by decide) (by decide) rfl rfl (lc_33 hO h hi hce hsl kk H locs Ls hP hS hl)
    | 34, _ => exact lv_tableIn (tgt := 1317) hO.hx hO.hb dLw_40 (by decide) (by decide) rfl rfl (lc_34 hO h hi hce hsl kk H locs Ls hP hS hl)
    | j + 35, hj35 => exact absurd hj35 (by omega)
  · refine lv_tableOut (tgt := 1342) hO.hx hO.hb dLw_40 (Or.inr ?_) rfl (lw_wid (Nat.le_succ _) (Nat.le_add_right _ 6) (kk _ _ _ h) H locs Ls hP hS hl)
    rw [nI_toInt (by omega)]
    omega
set_option maxRecDepth 100000 in
theorem law_loop {K : LT} (hO : LOk K) : ∀ (n i : Nat) (μ ν : Mm) (f : Nat → Int64), Rel μ ν → i ≤ K.L → K.L < n + i → LW K 23 (LV K i) [] μ ν f (200 + i) (30000 + 6 * i) := by
  intro n
  induction n with
  | zero => intro i μ ν f _ h1 h2; omega
  | succ n ih =>
    intro i μ ν f h h1 h2 H locs Ls hP hS hl
    have hLL := hO.1.2.1
    refine lv_iload hO.hx hO.hb dLw_23 (lv_at hl 4 rfl) ?_
    refine lv_aload_n hO.hx hO.hb dLw_25 rfl (lv_at hl 0 rfl) ?_
    refine va_slen hO.hx hO.hb hO.1.1.2.2.2.2.2.2.1 hO.1.1.2.2.2.2.2.2.2.1 (Nat.not_le.mpr hO.1.1.2.2.2.2.2.2.2.1) hS dLw_26 ?_
    refine lv_bipush (v := iI 6) hO.hx hO.hb dLw_27 (by decide) ?_
    refine lv_isub hO.hx hO.hb dLw_29 ?_
    have eL : Int32.ofNat K.L - iI 6 = iI ((K.L : Int) - 6) := by
      rw [show Int32.ofNat K.L = iI (K.L : Int) from Int32.ofInt_eq_ofNat.symm, iI_sub]
    rw [eL]
    have hcmp : iI ((K.L : Int) - 6) < iI (i : Int) ↔ (K.L : Int) - 6 < (i : Int) := iI_lt ⟨by omega, by omega⟩ ⟨by omega, by omega⟩
    refine lv_icmp_gt (tgt := 1348) hO.hx hO.hb dLw_30 rfl (fun hc => ?_) (fun hc => ?_)
    · refine lv_iconst (v := 1) hO.hx hO.hb dLw_1348 (by decide) ?_
      refine W.widen (k := 601024) (n := 7293034) (by omega) (by omega) ?_
      refine va_forget hS.2.2 ?_
      exact lw_ret hO.hx hO.hb hO.1.1.2.2.1 hO.1.1.2.2.2.2.2.2.2.2.1 dLw_1349
    · have hi : i + 6 ≤ K.L := by
        have : ¬ (K.L : Int) - 6 < (i : Int) := fun z => hc (hcmp.mpr z)
        omega
      refine lw_sw hO h hi (by omega) (by omega) (fun μ' ν' f' hR => ?_) H locs Ls hP hS hl
      intro H locs Ls hP hS hl
      refine lv_iinc (v := iI ((i + 6 : Nat) : Int)) (lv' := [(4, .int (iI ((i + 6 : Nat) : Int))), (0, .ref K.b), (1, .ref (K.q 0)), (2, .ref (K.r 0)), (3, .ref K.o)]) hO.hx hO.hb dLw_1342 hl (k := 4) rfl (by
        show iI (i : Int) + iI 6 = _
        rw [iI_add]
        rfl) (by decide) rfl (fun Ls hl => ?_)
      refine lv_goto (tgt := 23) hO.hx hO.hb dLw_1345 rfl ?_
      exact W.widen (by omega) (by omega) (ih (i + 6) μ' ν' f' hR (by omega) (by omega) H locs Ls hP hS (lv_sub hl [1, 2, 3, 4, 0] rfl))
