/-! ## the law's own method: a person, or 1 where the class has thrown -/
theorem dL_person_0 : decode cL_person 0 = .ok (.aload_n 3, 1) := by decide +kernel
theorem dL_person_1 : decode cL_person 1 = .ok (.iconst 0, 1) := by decide +kernel
theorem dL_person_2 : decode cL_person 2 = .ok (.aload_n 0, 1) := by decide +kernel
theorem dL_person_3 : decode cL_person 3 = .ok (.iload_n 1, 1) := by decide +kernel
theorem dL_person_4 : decode cL_person 4 = .ok (.iload_n 2, 1) := by decide +kernel
theorem dL_person_5 : decode cL_person 5 = .ok (.invokevirtual 7, 3) := by decide +kernel
theorem dL_person_8 : decode cL_person 8 = .ok (.i2l, 1) := by decide +kernel
theorem dL_person_9 : decode cL_person 9 = .ok (.lastore, 1) := by decide +kernel
theorem dL_person_10 : decode cL_person 10 = .ok (.goto 7, 3) := by decide +kernel
theorem dL_person_13 : decode cL_person 13 = .ok (.astore 4, 2) := by decide +kernel
theorem dL_person_15 : decode cL_person 15 = .ok (.iconst 1, 1) := by decide +kernel
theorem dL_person_16 : decode cL_person 16 = .ok (.ireturn, 1) := by decide +kernel
theorem dL_person_17 : decode cL_person 17 = .ok (.iconst 0, 1) := by decide +kernel
theorem dL_person_18 : decode cL_person 18 = .ok (.ireturn, 1) := by decide +kernel
def cwP : Cond := .codeWith yL_person cL_person 5 (some .int) [(0, 10, 13, 13)]
set_option maxRecDepth 100000 in
theorem cwP_in : cwP ∈ lw_g := lw_t5 135 rfl rfl
def loE (co : ClassId) (f : Nat → Int64) : va_E := .inl (co, 1, .inr (.inl f))
/-- its end -/
def LPQ (q : Nat → Nat) (ca : Nat → ClassId) (D : va_G) (o : Nat) (co : ClassId) (A : Nat → Prop) (μ : Mm) (cond : Prop) (x : Int) : Array Value → State → Outcome → State → Prop := fun _ st oc t => (∃ (k : Int) (f : Nat → Int64), oc = .returned (some (.int (iI k))) ∧ ((cond → k = 0 ∧ f 0 = (iI x).toInt64) ∧ (¬ cond → k = 1)) ∧ va_P D vwCl ((o, loE co f) :: wld PC q ca μ) t.heap) ∧ va_F A st t
theorem loD {A : Nat → Prop} {q : Nat → Nat} {ca : Nat → ClassId} {μ μ' : Mm} {o : Nat} {e e' : va_E} (h : va_D A ((o, e) :: wld PC q ca μ)) : va_D A ((o, e') :: wld PC q ca μ') := by
  have g : ∀ (k : Nat) (x : Nat × va_E), ((o, e') :: wld PC q ca μ')[k]? = some x → ∃ y, ((o, e) :: wld PC q ca μ)[k]? = some y ∧ y.1 = x.1 := by
    intro k x hx
    match k, hx with
    | 0, hx => cases hx; exact ⟨_, rfl, rfl⟩
    | k + 1, hx =>
      obtain ⟨hk, rfl⟩ := wld_get_inv (show (wld PC q ca μ')[k]? = some x from hx)
      exact ⟨_, wld_get hk, rfl⟩
  refine ⟨fun i j x y hx hy e1 => ?_, fun k x hx => ?_⟩
  · obtain ⟨x', hx', ex⟩ := g i x hx
    obtain ⟨y', hy', ey⟩ := g j y hy
    exact h.1 i j x' y' hx' hy' (by rw [ex, ey, e1])
  · obtain ⟨x', hx', ex⟩ := g k x hx
    rw [← ex]
    exact h.2 k x' hx'
set_option maxHeartbeats 4000000 in
set_option maxRecDepth 100000 in
theorem lp_person {μ ν : Mm} (h : Rel μ ν) {v u : Int} (hv : InR v) (hu : InR u) (l : Launch) (hfl : l.stackTraces = false) (q : Nat → Nat) (ca : Nat → ClassId) (D : va_G) (sz b o : Nat) (co : ClassId) (f : Nat → Int64) : vx_Met l yL_person (cwP :: lw_g) (rmn 9 1 6) (va_Pc [.ref (q 0), .int (iI v), .int (iI u), .ref o] (fun U => U.heap.size = sz ∧ va_P D vwCl ((o, loE co f) :: wld PC q ca μ) U.heap ∧ va_K D vwCl (wty PC ca) U ∧ va_K D vwCl [(co, .long)] U ∧ va_D (fun a => b ≤ a) ((o, loE co f) :: wld PC q ca μ) ∧ XT q (fun a => b ≤ a) U ∧ b ≤ sz ∧ NW U)) (LPQ q ca D o co (va_A ((o, loE co f) :: wld PC q ca μ) sz) μ ((0 ≤ v ∧ v < ν.1 0 25) ∧ (0 ≤ u ∧ u ≤ 6)) (perM ν v u)) (fun _ _ _ => False) 1 6 (va_A ((o, loE co f) :: wld PC q ca μ) sz) := by
  refine vx_ofWH (cc := cL_person) (maxL := 5) (ret := some .int) (hh := [(0, 10, 13, 13)]) (by decide) rfl ?_
  intro p e s m args below meth c s₁ B hml hv0
  obtain ⟨rfl, hsz, hP, hK, hKo, hD, hXT, hbs, hNW⟩ := hv0
  have hx := B.exec
  have hb := B.bytes
  have hr := B.returns
  have hts0 := atoms_spec (ws := cwP :: lw_g) B.pre
  have htab := vx_table (x := yL_person) B (hts0 cwP List.mem_cons_self)
  have hts : ∀ w ∈ lw_g, w.before [.ref (q 0), .int (iI v), .int (iI u), .ref o].toArray s = true := fun w hw => hts0 w (List.mem_cons_of_mem _ hw)
  have hown : s.vm.findClass RL = some m.cls := findClass_of_methodNamed B.named
  have hlocks := B.notSynchronized
  subst hsz
  have hPw : va_P D vwCl (wld PC q ca μ) s.heap := fun k x hx => hP (k + 1) x hx
  have hDw : va_D (fun a => b ≤ a) (wld PC q ca μ) := hD.by (fun k => k + 1) (fun k x hx => hx) (fun i j _ _ e => by omega)
  have ho : o < s.heap.size := (hP 0 _ rfl).lt
  have hno : ∀ (k : Nat) (x : Nat × va_E), (wld PC q ca μ)[k]? = some x → x.1 ≠ o := fun k x hx e => by
    have := hD.1 (k + 1) 0 x (o, loE co f) hx rfl e
    omega
  have hAA : ∀ a, va_A (wld PC q ca μ) s.heap.size a → va_A ((o, loE co f) :: wld PC q ca μ) s.heap.size a := fun a h => by
    rcases h with ⟨k, x, hk⟩ | h
    · exact Or.inl ⟨k + 1, x, hk⟩
    · exact Or.inr h
  have hoA : ¬ va_A (wld PC q ca μ) s.heap.size o := fun z => by
    rcases z with ⟨k, x, hk⟩ | z
    · exact hno k _ hk rfl
    · omega
  have hl := lv_entry [.ref (q 0), .int (iI v), .int (iI u), .ref o] (n := 5) (Nat.le_of_ble_eq_true rfl)
  rw [lg_entry_eq]
  generalize (lg_sl [.ref (q 0), .int (iI v), .int (iI u), .ref o] ++ List.replicate (5 - (lg_sl [.ref (q 0), .int (iI v), .int (iI u), .ref o]).length) Slot.unset).toArray = ls at hl ⊢
  have hl : lv_has ls 5 [(0, .ref (q 0)), (1, .int (iI v)), (2, .int (iI u)), (3, .ref o)] := hl
  refine lv_aload_n hx hb dL_person_0 rfl (lv_at hl 3 rfl) ?_
  refine lv_iconst (v := iI 0) hx hb dL_person_1 rfl ?_
  refine lv_aload_n hx hb dL_person_2 rfl (lv_at hl 0 rfl) ?_
  refine lv_iload_n hx hb dL_person_3 rfl (lv_at hl 1 rfl) ?_
  refine lv_iload_n hx hb dL_person_4 rfl (lv_at hl 2 rfl) ?_
  by_cases hc : (0 ≤ v ∧ v < ν.1 0 25) ∧ (0 ≤ u ∧ u ≤ 6)
  · have hC := cP_person h (p := v.toNat) (u := u) (by omega) hc.2
    rw [Int.toNat_of_nonneg hc.1.1] at hC
    refine w_callV (as := [vI v, vI u]) (k := 0) (rest := [.int (iI 0), .ref o]) (q := q) (b := b) ⟨hx, hb, hml, hown, hts⟩ XCo hC dL_person_5 (lw_t5 137 rfl rfl) kX11_person (T0 := TX11) rfl (by decide) rfl rfl hl.1 (Nat.le_of_ble_eq_true rfl) ⟨by decide, by decide⟩ (by decide) (by decide) hPw hK hDw (fun U hU hW => XCo q _ s U (Or.inr hW) (fun a _ _ => by rw [hU]) hXT.1) hbs hNW (fun r μ' H1 L hq hP1 hz1 hk1 hL1 => ?_)
    obtain ⟨rfl, e9⟩ := hq
    rw [e9] at hP1
    refine lv_i2l (v := (iI (perM ν v u)).toInt64) hx hb dL_person_8 rfl ?_
    have hPo : va_P D vwCl ((o, loE co f) :: wld PC q ca μ) H1 := fun k x hx => by
      match k, hx with
      | 0, hx =>
        cases hx
        exact (hP 0 _ rfl).kept (hk1 o ho hoA)
      | k + 1, hx => exact hP1 k x hx
    have hS : va_S (va_A ((o, loE co f) :: wld PC q ca μ) s.heap.size) s.heap H1 ([] ++ L) := ⟨hz1, fun a h1 h2 => hk1 a h1 (fun z => h2 (hAA a z)), fun x hx => hAA _ (hL1 x hx)⟩
    refine va_last hx hb hKo hPo (hD.self (sz := s.heap.size)) hS 0 0 rfl rfl (iI_in (a := 0) (by decide) (by decide) (by decide)) dL_person_9 (fun H2 locs2 hP2 hD2 hS2 => ?_)
    refine lv_goto (tgt := 17) hx hb dL_person_10 rfl ?_
    refine lv_iconst (v := iI 0) hx hb dL_person_17 rfl ?_
    refine W.widen (k := 1) (n := 6) (by decide) (by decide) ?_
    refine vx_ret (W.iret hx hb hr (fun t ht _ => ⟨⟨0, _, rfl, ⟨fun _ => ⟨rfl, ?_⟩, fun z => absurd hc z⟩, by rw [ht]; exact hP2⟩, hS2.F ht⟩) hS2.2.2 dL_person_18)
    rfl
  · have cw : CallW (rmn 9 1 6) s [.ref (q 0), .int (iI v), .int (iI u), .ref o].toArray RL RX11 7 yX11_person cX11_person 3 (some .int) (.code yX11_person cX11_person 3 (some .int) :: lw_g) (rmn 7 1 6) 1 6 2 := ⟨callB_of 2 hts (lw_goodc kX11_person.1.1) rfl rfl rfl (hts _ kX11_person.1.2.1) (hts _ (lw_t5 137 rfl rfl)) kX11_person.1.2.2.1 ⟨by decide, by decide⟩, hts _ kX11_person.2.1, hts _ kX11_person.2.2⟩
    have he := wld_get (P := PC) (q := q) (ca := ca) (μ := μ) (k := 0) (by decide)
    rw [cellE_obj (show PC.1 0 = .inr (.inr (11, [4, 7, 11, 15, 28, 30, 32, 34, 76, 79, 80, 84, 88, 0, 0, 0, 0])) from rfl)] at he
    have hrun := vx_runV (l := l) (e := e) (R := rmn 9 1 6) (below := below) (meth := meth) (locs := []) (cells := 0) (slots := 0) (g := F0 m 5 ls [.int (iI u), .int (iI v), .ref (q 0), .int (iI 0), .ref o]) (As := [.int (iI v), .int (iI u)]) (rest := [.int (iI 0), .ref o]) (b := q 0) (H := s.heap) ⟨hx, hb, hml, hown, hts⟩ (tP_person h hv hu hc l hfl q ca D s.heap.size b) cw ⟨fun a U g mk z => by
      obtain ⟨z1, z2, z3, z4, z5, z6, z7, z8⟩ := z
      exact ⟨z1, z2, z3, va_K.moved (u := U) (U := U.calling g mk a) (Vm.Alike.refl U.vm) z4, z5, z6.mv (u := U) (U := U.calling g mk a) (Or.inl rfl) (fun _ _ _ => rfl), z7, NW.same (u := U) (U := U.calling g mk a) rfl z8⟩, va_recv hK hPw okX11.1 he, fun U hU hW => ⟨rfl, by rw [hU], by rw [hU]; exact hPw, va_K.moved hW.alike hK, hDw, hXT.mv (Or.inr hW) (fun a _ _ => by rw [hU]), hbs, NW.warm hW hNW⟩⟩ rfl rfl hl.1 rfl (Nat.le_of_ble_eq_true rfl) dL_person_5 ⟨by decide, by decide⟩
    intro T hT X
    rcases hrun T hT X with ⟨_, _, _, _, _, _, _, _, _, _, hF, _⟩ | ⟨q9, st₀, t, T', L, E, ce, h0, X', hL, e1, e2, hPX, hce, hcv, hcl, st⟩
    · exact hF.elim
    · obtain ⟨rfl, hP1, hz, hk⟩ := hPX
      rw [h0] at hz hk
      rw [← e1] at hz hk hP1 hce
      have hPo : va_P D vwCl ((o, loE co f) :: wld PC q ca μ) T'.heap := fun k x hx => by
        match k, hx with
        | 0, hx =>
          cases hx
          exact (hP 0 _ rfl).kept (hk o ho hoA)
        | k + 1, hx => exact hP1 k x hx
      have hS : va_S (va_A ((o, loE co f) :: wld PC q ca μ) s.heap.size) s.heap T'.heap ([] ++ L) := ⟨hz, fun a h1 h2 => hk a h1 (fun z => h2 (hAA a z)), fun x hx => hAA _ (hL x hx)⟩
      have hw : vx_W p l e (rmn 9 1 6) s m [.ref (q 0), .int (iI v), .int (iI u), .ref o].toArray below meth c T'.heap ([] ++ L) (0 + 1) (0 + 6) (vx_MQ below (LPQ q ca D o co (va_A ((o, loE co f) :: wld PC q ca μ) s.heap.size) μ ((0 ≤ v ∧ v < ν.1 0 25) ∧ (0 ≤ u ∧ u ≤ 6)) (perM ν v u)) (fun _ _ _ => False) [.ref (q 0), .int (iI v), .int (iI u), .ref o].toArray s 1 6 (va_A ((o, loE co f) :: wld PC q ca μ) s.heap.size)) (F0 m 5 ls [.int (iI 0), .ref o]) q9 := by
        refine vx_catch (name := neeC) (E := neeC) (ce := ce) hown [] _ [] htab (fun z hz => nomatch hz) (by decide) (by decide) (hts _ (lw_t5 136 rfl rfl)) (neeB_use hXT.2.2.2 _ (by decide +kernel)) hce hcv hcl ?_
        refine lv_astore (lv' := [(4, .ref q9), (0, .ref (q 0)), (1, .int (iI v)), (2, .int (iI u)), (3, .ref o)]) hx hb dL_person_13 hl (by decide) rfl (fun ls hl => ?_)
        refine lv_iconst (v := iI 1) hx hb dL_person_15 rfl ?_
        exact vx_ret (W.iret hx hb hr (fun t ht _ => ⟨⟨1, f, rfl, ⟨fun z => absurd z hc, fun _ => rfl⟩, by rw [ht]; exact hPo⟩, hS.F ht⟩) hS.2.2 dL_person_16)
      obtain ⟨t2, a1, b1⟩ := hw T' rfl X'
      exact ⟨t2, st.trans a1, b1⟩
