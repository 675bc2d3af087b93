/-! ## calls of memory contracts out of any method; a person where the class throws -/
section
variable {p : Program} {l : Launch} {e : Env} {R : Room} {s : State} {m : MethodId} {args : Array Value} {below : List Frame} {meth : Method} {c : Code} {H : Heap} {locs : List Loc} {cells slots : Nat} {Q : State → Prop}
theorem w_callV {cc : ByteArray} {own : String} {nL pc : Nat} {Ls : Array Slot} {P : LPk} {q : Nat → Nat} {ca : Nat → ClassId} {D : va_G} {b : Nat} {μ : Mm} {d' ix na maxL k ci N : Nat} {y : MethodName} {bytes : ByteArray} {ret' : Option FieldType} {T0 : u_T} {fs : List Nat} {as : List AV} {Q' : Option AV → Mm → Prop} {rest : List Value}
    (S : CallFix p m c cc nL s args lw_g own) (hX : XOk P) (hC : Ct P d' y bytes maxL ret' (vR k :: as) μ Q') (hd : decode cc pc = .ok (.invokevirtual ix, 3)) (hw : Cond.methodLink own ix y ∈ lw_g) (hy : CkV y bytes maxL ret' na) (hcl : vwCl[ci]? = some (y.cls, T0, N)) (hk : k < P.2.1) (hL : P.1 k = .inr (.inr (ci, fs))) (hna : as.length = na) (hsz : Ls.size = nL) (hst : (rest.map fun v => v.category).sum ≤ 8)
    (hR : d' + 1 ≤ R.frames ∧ 8 + (maxL + 11) + 60 * d' ≤ R.locals) (hce : cells ≤ R.cells) (hsl : slots ≤ R.slots) (hP : va_P D vwCl (wld P q ca μ) H) (hK : va_K D vwCl (wty P ca) s) (hD : va_D (fun a => b ≤ a) (wld P q ca μ)) (hXX : ∀ U : State, U.heap = H → s.WarmedH U.vm → P.2.2 q (fun a => b ≤ a) U) (hbb : b ≤ H.size) (hNW : NW s)
    (kk : ∀ (r : Option AV) (μ' : Mm) (H1 : Heap) (L : List Loc), Q' r μ' → va_P D vwCl (wld P q ca μ') H1 → H.size ≤ H1.size → (∀ a, a < H.size → ¬ va_A (wld P q ca μ) H.size a → H1[a]? = H[a]?) → (∀ x ∈ L, va_A (wld P q ca μ) H.size x.base) → W p l e R s m args below meth c H1 (locs ++ L) cells slots Q (F0 m (pc + 3) Ls ((r.map (cv q)).toList ++ rest))) :
    W p l e R s m args below meth c H locs cells slots Q (F0 m pc Ls ((as.map (cv q)).reverse ++ .ref (q k) :: rest)) := by
  have hts := S.2.2.2.2
  have he := wld_get (P := P) (q := q) (ca := ca) (μ := μ) hk
  rw [cellE_obj hL] at he
  have cw : CallW R s args own y.cls ix y bytes maxL ret' (.code y bytes maxL ret' :: lw_g) (rmd d') 0 0 na := ⟨callB_of na hts (lw_goodc hy.1.1) rfl rfl rfl (hts _ hy.1.2.1) (hts _ hw) hy.1.2.2.1 hR, hts _ hy.2.1, hts _ hy.2.2⟩
  have hr := va_runV (l := l) (e := e) (R := R) (below := below) (meth := meth) (locs := locs) (cells := cells) (slots := slots) (g := F0 m pc Ls ((as.map (cv q)).reverse ++ .ref (q k) :: rest)) (As := as.map (cv q)) (rest := rest) (b := q k) S (hC l q ca D H.size b) cw ⟨ct_blind hX, va_recv hK hP hcl he, fun U hU hW => ⟨rfl, by rw [hU], by rw [hU]; exact hP, va_K.moved hW.alike hK, hD, hXX U hU hW, hbb, NW.warm hW hNW⟩⟩ rfl (by rw [List.length_map]; exact hna) hsz rfl (by show 2 * 0 + _ ≤ 8; omega) hd ⟨hce, hsl⟩
  intro T hT X
  obtain ⟨v, st₀, t, T', L, h0, X', hL', e1, e2, ⟨⟨r, μ', hv, hq, hP'⟩, hz, hk'⟩, stp⟩ := hr T hT X
  cases hv
  rw [h0] at hz hk'
  obtain ⟨t2, a1, b1⟩ := kk r μ' T'.heap L hq (by rw [e1]; exact hP') (by rw [e1]; exact hz) (fun a h1 h2 => by rw [e1]; exact hk' a h1 h2) hL' T' rfl X'
  exact ⟨t2, stp t2 a1, b1⟩
end
/-- the words of a throw that are no good ones: they are said of the state -/
def neeB : List Cond := [.declares (Bundle.initS "java/lang/RuntimeException"), .declares (Bundle.initS "java/lang/Exception"), .declares (Bundle.initS Bundle.tN), .castable neeC neeC]
def XT (q : Nat → Nat) (A : Nat → Prop) (U : State) : Prop := XC q A U ∧ (vk_R RX11 170 "no such person" (q 96) U ∧ vk_R RX11 191 "nothing such is known of a person" (q 97) U) ∧ (vx_Zq Bundle.tN "UNASSIGNED_STACK" Bundle.steD A U U.heap ∧ vx_Zq Bundle.tN "SUPPRESSED_SENTINEL" Bundle.listD A U U.heap) ∧ ∀ w ∈ neeB, va_Nw w U
theorem XT.mv {q : Nat → Nat} {A : Nat → Prop} {u U : State} (hvm : u.vm = U.vm ∨ u.WarmedH U.vm) (hk : ∀ a : Nat, a < u.heap.size → ¬ A a → U.heap[a]? = u.heap[a]?) (h : XT q A u) : XT q A U := by
  have hal : u.vm.Alike U.vm := by
    rcases hvm with e | w
    · rw [e]; exact Vm.Alike.refl _
    · exact w.alike
  have hR : ∀ own k tx a, vk_R own k tx a u → vk_R own k tx a U := fun own k tx a h => by
    rcases hvm with e | w
    · exact vk_R.same e.symm h
    · exact vk_R.warm w h
  refine ⟨XCo q A u U hvm hk h.1, ⟨hR _ _ _ _ h.2.1.1, hR _ _ _ _ h.2.1.2⟩, ⟨(vx_Zq.moved hal h.2.2.1.1).kept hk, (vx_Zq.moved hal h.2.2.1.2).kept hk⟩, fun w hw => ?_⟩
  have h1 := h.2.2.2 w hw
  rcases hvm with e | ww
  · refine va_Nw.same ?_ e h1
    simp only [neeB, List.mem_cons, List.not_mem_nil, or_false] at hw
    rcases hw with rfl | rfl | rfl | rfl <;> rfl
  · simp only [neeB, List.mem_cons, List.not_mem_nil, or_false] at hw
    rcases hw with rfl | rfl | rfl | rfl
    · exact va_Nw.warmD ww h1
    · exact va_Nw.warmD ww h1
    · exact va_Nw.warmD ww h1
    · exact va_Nw.warmC ww h1
theorem neeB_use {args : Array Value} {U : State} (h : ∀ w ∈ neeB, va_Nw w U) : ∀ w ∈ neeB, w.before args U = true := fun w hw => by
  have h1 := h w hw
  simp only [neeB, List.mem_cons, List.not_mem_nil, or_false] at hw
  rcases hw with rfl | rfl | rfl | rfl <;> exact va_Nw.use rfl h1
set_option maxRecDepth 100000 in
theorem neeG : ∀ w ∈ (neeW RX11 172).filter goodWord, w ∈ lw_g := lw_ps [108, 1209, 1218, 1220, 1223, 1225, 1210, 1211, 119, 120, 1212, 1217, 1221, 1241, 1199, 1242, 1201, 1243, 1203, 1213, 1215, 1205, 1237, 1238, 1240, 1205, 1228, 1229, 1230, 1231, 1231, 1232, 1233, 1234, 1234, 1235, 1236, 1237, 1227, 1188, 1196, 1197, 1198, 1200, 1202, 1204, 1208, 1207, 1206] (by decide +kernel) (by decide +kernel)
set_option maxRecDepth 100000 in
theorem neeN : ∀ w ∈ (neeW RX11 172).filter (fun w => !goodWord w), w ∈ neeB := by decide +kernel
set_option maxRecDepth 100000 in
theorem neeO : ∀ w ∈ Cond.classLink RX11 168 neeC :: Cond.initialized neeC :: neeW RX11 172, vx_ot w = true := by decide +kernel
theorem neeHat {args : Array Value} {s : State} (hts : ∀ w ∈ lw_g, w.before args s = true) (hB : ∀ w ∈ neeB, va_Nw w s) : ∀ w ∈ neeW RX11 172, w.before args s = true := vx_hat (fun w hw => hts w (neeG w hw)) neeN (neeB_use hB)
/-- what the class has done where it has thrown -/
def PX (q : Nat → Nat) (ca : Nat → ClassId) (D : va_G) (sz : Nat) (μ : Mm) : String → State → State → Prop := fun E st t => E = neeC ∧ va_P D vwCl (wld PC q ca μ) t.heap ∧ va_F (va_A (wld PC q ca μ) sz) st t
set_option maxHeartbeats 4000000 in
set_option maxRecDepth 100000 in
theorem tP_person {μ ν : Mm} (h : Rel μ ν) {v u : Int} (hv : InR v) (hu : InR u) (hno : ¬ ((0 ≤ v ∧ v < ν.1 0 25) ∧ (0 ≤ u ∧ u ≤ 6))) (l : Launch) (hfl : l.stackTraces = false) (q : Nat → Nat) (ca : Nat → ClassId) (D : va_G) (sz b : Nat) : vx_Met l yX11_person (.code yX11_person cX11_person 3 (some .int) :: lw_g) (rmn 7 1 6) (va_Pc [.ref (q 0), .int (iI v), .int (iI u)] (fun U => U.heap.size = sz ∧ va_P D vwCl (wld PC q ca μ) U.heap ∧ va_K D vwCl (wty PC ca) U ∧ va_D (fun a => b ≤ a) (wld PC q ca μ) ∧ XT q (fun a => b ≤ a) U ∧ b ≤ sz ∧ NW U)) (fun _ _ _ _ => False) (PX q ca D sz μ) 1 6 (va_A (wld PC q ca μ) sz) := by
  refine vx_ofW (cc := cX11_person) (maxL := 3) (ret := some .int) (by decide) rfl ?_
  intro p e s m args below meth c s₁ B hml ht hv0
  obtain ⟨rfl, hsz, hP, hK, hD, hXT, hbs, hNW⟩ := hv0
  have hx := B.exec
  have hb := B.bytes
  have hts0 := atoms_spec (ws := .code yX11_person cX11_person 3 (some .int) :: lw_g) B.pre
  have hts : ∀ w ∈ lw_g, w.before [.ref (q 0), .int (iI v), .int (iI u)].toArray s = true := fun w hw => hts0 w (List.mem_cons_of_mem _ hw)
  have hown : s.vm.findClass RX11 = some m.cls := findClass_of_methodNamed B.named
  have hlocks := B.notSynchronized
  subst hsz
  have hAb : ∀ a, va_A (wld PC q ca μ) s.heap.size a → b ≤ a := fun a h => by
    rcases h with ⟨k, x, hk⟩ | h
    · exact hD.2 k _ hk
    · exact Nat.le_trans hbs h
  have hl := lv_entry [.ref (q 0), .int (iI v), .int (iI u)] (n := 3) (Nat.le_of_ble_eq_true rfl)
  rw [lg_entry_eq]
  generalize (lg_sl [.ref (q 0), .int (iI v), .int (iI u)] ++ List.replicate (3 - (lg_sl [.ref (q 0), .int (iI v), .int (iI u)]).length) Slot.unset).toArray = ls at hl ⊢
  have hl : lv_has ls 3 [(0, .ref (q 0)), (1, .int (iI v)), (2, .int (iI u))] := hl
  have thr : ∀ (H : Heap) (locs : List Loc) (pc ix sa : Nat) (tx : String), va_P D vwCl (wld PC q ca μ) H → s.heap.size ≤ H.size → (∀ a, a < s.heap.size → ¬ va_A (wld PC q ca μ) s.heap.size a → H[a]? = s.heap[a]?) → (∀ x ∈ locs, va_A (wld PC q ca μ) s.heap.size x.base) → vk_R RX11 ix tx sa s → decode cX11_person pc = .ok (.new 168, 3) → decode cX11_person (pc + 3) = .ok (.dup, 1) → decode cX11_person (pc + 4) = .ok (.ldc ix, 2) → decode cX11_person (pc + 6) = .ok (.invokespecial 172, 3) → decode cX11_person (pc + 9) = .ok (.athrow, 1) →
      W p l e (rmn 7 1 6) s m [.ref (q 0), .int (iI v), .int (iI u)].toArray below meth c H locs 0 0 (vx_MQ below (fun _ _ _ _ => False) (PX q ca D s.heap.size μ) [.ref (q 0), .int (iI v), .int (iI u)].toArray s 1 6 (va_A (wld PC q ca μ) s.heap.size)) (F0 m pc ls []) := by
    intro H locs pc ix sa tx hP1 hz1 hk1 hL1 hR d0 d3 d4 d6 d9
    have hS : va_S (fun a => b ≤ a) s.heap H locs := ⟨hz1, fun a h1 h2 => hk1 a h1 (fun z => h2 (hAb a z)), fun x hx => hAb _ (hL1 x hx)⟩
    refine nx_make (A := fun a => b ≤ a) hx hb hfl hown (hts _ (lw_t5 141 rfl rfl)) (hts _ (lw_t1 25 rfl rfl)) hR (neeHat hts hXT.2.2.2) neeO hXT.2.2.1.1 hXT.2.2.1.2 hS (by rw [hml]; exact hl.1) d0 d3 d4 d6 (by decide) (by decide) (by decide) (by decide) (fun H2 ce h1 h2 h3 h4 h5 => ?_)
    refine vx_athrow hx hb d9 ?_
    refine vx_out (E := neeC) (ce := ce) (fun x hx => (ht x hx).elim) hlocks h1 h2 h3 (fun t htt _ => ?_) hL1 (by decide) (by decide)
    refine ⟨rfl, ?_, by rw [htt]; exact Nat.le_trans hz1 h4, fun a g1 g2 => ?_⟩
    · rw [htt]
      exact hP1.kept (fun k x hx => h5 x.1 (hP1 k x hx).lt)
    · rw [htt, h5 a (Nat.lt_of_lt_of_le g1 hz1)]
      exact hk1 a g1 g2
  refine lv_aload_n hx hb dX11_person_0 rfl (lv_at hl 0 rfl) ?_
  have he := wld_get (P := PC) (q := q) (ca := ca) (μ := μ) (k := 0) (by decide)
  rw [cellE_obj (show PC.1 0 = .inr (.inr (11, [4, 7, 11, 15, 28, 30, 32, 34, 76, 79, 80, 84, 88, 0, 0, 0, 0])) from rfl)] at he
  refine va_get hx hb hts okX11.2 hown hK hP 0 he okX11.1 4 (by decide) (hts _ (lw_t2 49 rfl rfl)) (fun _ h => h) (v := .ref (q 25)) rfl dX11_person_1 ?_
  refine lv_iload_n hx hb dX11_person_4 rfl (lv_at hl 1 rfl) ?_
  refine w_callV (as := [vI v]) (k := 25) (rest := []) (q := q) (b := b) ⟨hx, hb, hml, hown, hts⟩ XCo (cJ_hasPerson h.JR.z hv) dX11_person_5 (lw_t3 170 rfl rfl) kX9_hasPerson (T0 := TX9) rfl (by decide) rfl rfl hl.1 (Nat.le_of_ble_eq_true rfl) ⟨by decide, by decide⟩ (by decide) (by decide) hP hK hD (fun U hU hW => XCo q _ s U (Or.inr hW) (fun a _ _ => by rw [hU]) hXT.1) hbs hNW (fun r μ' H1 L hq hP1 hz1 hk1 hL1 => ?_)
  obtain ⟨rfl, rfl⟩ := hq
  by_cases hp : 0 ≤ v ∧ v < ν.1 0 25
  · rw [if_pos hp]
    refine lv_if_ne (tgt := 21) hx hb dX11_person_8 rfl (fun _ => ?_) (fun hc => absurd hc (by decide))
    refine lv_iload_n hx hb dX11_person_21 rfl (lv_at hl 2 rfl) ?_
    refine lv_tableOut (tgt := 150) hx hb dX11_person_22 (by rw [toInt_iI hu]; omega) rfl ?_
    exact thr H1 _ 150 191 (q 97) _ hP1 hz1 hk1 hL1 hXT.2.1.2 dX11_person_150 dX11_person_153 dX11_person_154 dX11_person_156 dX11_person_159
  · rw [if_neg hp]
    refine lv_if_ne (tgt := 21) hx hb dX11_person_8 rfl (fun hc => absurd (rfl : iI 0 = 0) hc) (fun _ => ?_)
    exact thr H1 _ 11 170 (q 96) _ hP1 hz1 hk1 hL1 hXT.2.1.1 dX11_person_11 dX11_person_14 dX11_person_15 dX11_person_17 dX11_person_20
