/-! ## the law from its entry -/
section
variable {p : Program} {l : Launch} {e : Env} {R : Room} {s : State} {m : MethodId} {args : Array Value} {below : List Frame} {meth : Method} {c : Code} {H : Heap} {locs : List Loc} {cells slots : Nat} {Q : State → Prop}
/-- a constructor is called out of any method -/
theorem w_ctor {cc : ByteArray} {own : String} {nL pc b : Nat} {Ls : Array Slot} {D : va_G} {A : Nat → Prop} {q : Nat → Nat} {tys : TyL} {rest : List Value} {ix d' mc' ms' maxL ci h0 na : Nat} {y : MethodName} {bytes : ByteArray} {fs0 As : List Value} {w1 : va_W} {RS : (Nat → Nat) → Nat → va_W → TyL → Prop}
    (S : CallFix p m c cc nL s args lw_g own) (hd : decode cc pc = .ok (.invokespecial ix, 3)) (hw : Cond.methodLink own ix y ∈ lw_g) (hy : CkB y bytes maxL none na) (hyn : y.name = "<init>") (hyi : Cond.instanceMethod y ∈ lw_g) (hC : CtN d' mc' ms' y bytes maxL ci fs0 As RS) (hna : As.length = na) (hst : (rest.map fun v => v.category).sum ≤ 8)
    (hR : d' + 1 ≤ R.frames ∧ 8 + (maxL + 11) + 60 * d' ≤ R.locals) (hce : cells + mc' ≤ R.cells) (hsl : slots + ms' ≤ R.slots) (hA : ∀ a, s.heap.size ≤ a → A a) (hAb : ∀ a, A a → b ≤ a) (hbs : b ≤ s.heap.size) (hXE : XE q (fun a => b ≤ a) s) (hNW : NW s) (hP : va_P D vwCl (w1 ++ [(h0, .inr (ci, fs0))]) H) (hD : va_D A (w1 ++ [(h0, .inr (ci, fs0))])) (hK : va_K D vwCl tys s) (hS : va_S A s.heap H locs) (hsz : Ls.size = nL)
    (kk : ∀ (w : va_W) (ty : TyL) (H1 : Heap) (locs1 : List Loc), RS q h0 w ty → va_P D vwCl (w1 ++ w) H1 → va_D A (w1 ++ w) → va_K D vwCl (tys ++ ty) s → va_S A s.heap H1 locs1 → W p l e R s m args below meth c H1 locs1 (cells + mc') (slots + ms') Q (F0 m (pc + 3) Ls rest)) :
    W p l e R s m args below meth c H locs cells slots Q (F0 m pc Ls (As.reverse ++ .ref h0 :: rest)) := by
  have hts := S.2.2.2.2
  have hA0 : A h0 := hD.2 w1.length (h0, .inr (ci, fs0)) (by simp)
  have hPc : va_P D vwCl [(h0, .inr (ci, fs0))] H := fun k x hx => by
    have hz : k < 1 := (List.getElem?_eq_some_iff.mp hx).1
    rw [show k = 0 by omega] at hx
    cases hx
    exact hP w1.length _ (by simp)
  have cw : CallB R s args own ix y bytes maxL none (.code y bytes maxL none :: lw_g) (rmn d' mc' ms') mc' ms' na ∧ y.name = "<init>" ∧ (Cond.instanceMethod y).before args s = true := ⟨callB_of na hts (lw_goodc hy.1) rfl rfl rfl (hts _ hy.2.1) (hts _ hw) hy.2.2.1 hR, hyn, hts _ hyi⟩
  have hpre : PreS s H (va_Pc (.ref h0 :: As) (fun U => U.heap.size = H.size ∧ va_P D vwCl [(h0, .inr (ci, fs0))] U.heap ∧ va_K D vwCl [] U ∧ (b ≤ h0 ∧ b ≤ H.size) ∧ XE q (fun a => b ≤ a) U ∧ NW U)) (.ref h0 :: As) := by
    refine ⟨fun a U g mk h => ?_, fun U hU hW => ?_⟩
    · obtain ⟨h1, h2, h3, h4, h5, h6, h7⟩ := h
      exact ⟨h1, h2, h3, va_K.moved (u := U) (U := U.calling g mk a) (Vm.Alike.refl U.vm) h4, h5, h6.mv (u := U) (U := U.calling g mk a) (Or.inl rfl) (fun _ _ _ => rfl), NW.same (u := U) (U := U.calling g mk a) rfl h7⟩
    · refine ⟨rfl, by rw [hU], by rw [hU]; exact hPc, va_K.moved hW.alike (hK.sub [] rfl), ⟨hAb _ hA0, Nat.le_trans hbs hS.1⟩, ?_, NW.warm hW hNW⟩
      refine hXE.mv (Or.inr hW) (fun a h1 h2 => ?_)
      rw [hU]
      exact hS.2.1 a h1 (fun z => h2 (hAb a z))
  have hr := va_runI (l := l) (e := e) (R := R) (below := below) (meth := meth) (locs := locs) (cells := cells) (slots := slots) (H := H) (g := F0 m pc Ls (As.reverse ++ .ref h0 :: rest)) (As := As) (rest := rest) S (hC l D q H.size b h0) cw hpre rfl hna hsz rfl (by show 2 * 0 + _ ≤ 8; omega) hd ⟨hce, hsl⟩
  have hAA : ∀ a, va_A [(h0, (Sum.inr (ci, fs0) : va_E))] H.size a → A a := fun a h => by
    rcases va_A1.mp h with rfl | h
    · exact hA0
    · exact hA a (Nat.le_trans hS.1 h)
  have g1 : ∀ (k : Nat) (x : Nat × va_E), w1[k]? = some x → (w1 ++ [(h0, (Sum.inr (ci, fs0) : va_E))])[k]? = some x := fun k x hx => by rw [List.getElem?_append_left (List.getElem?_eq_some_iff.mp hx).1]; exact hx
  have hP1 : va_P D vwCl w1 H := fun k x hx => hP k x (g1 k x hx)
  have hne : ∀ (k : Nat) (x : Nat × va_E), w1[k]? = some x → x.1 ≠ h0 := fun k x hx e => by
    have := hD.1 k w1.length x (h0, .inr (ci, fs0)) (g1 k x hx) (by simp) e
    have := (List.getElem?_eq_some_iff.mp hx).1
    omega
  intro T hT X
  obtain ⟨v, st₀, t, T', L, e0, X', hL, e1, e2, ⟨⟨hv, w, ty, hrs, hPw, hKw, hDw⟩, hz, hk⟩, stp⟩ := hr T hT X
  cases hv
  rw [e0] at hz hk
  have hk1 : ∀ (k : Nat) (x : Nat × va_E), w1[k]? = some x → T'.heap[x.1]? = H[x.1]? := fun k x hx => by
    have hlt := (hP1 k x hx).lt
    rw [e1]
    refine hk x.1 hlt (fun z => ?_)
    rcases va_A1.mp z with h | h
    · exact hne k x hx h
    · omega
  have hS' : va_S A s.heap T'.heap (locs ++ L) := ⟨Nat.le_trans hS.1 (by rw [e1]; exact hz), fun q h1 h2 => by rw [e1, hk q (Nat.lt_of_lt_of_le h1 hS.1) (fun z => h2 (hAA q z))]; exact hS.2.1 q h1 h2, fun q hq => by
    rcases List.mem_append.mp hq with h | h
    · exact hS.2.2 q h
    · exact hAA _ (hL q h)⟩
  have hP' : va_P D vwCl (w1 ++ w) T'.heap := (hP1.kept hk1).app (by rw [e1]; exact hPw)
  have hD1 : va_D A w1 := hD.by (fun k => k) g1 (fun i j _ _ h => h)
  have hD' : va_D A (w1 ++ w) := hD1.app ⟨hDw.1, fun k x hx => hAA _ (hDw.2 k x hx)⟩ (fun i j x y hx hy e => by
    rcases va_A1.mp (hDw.2 j y hy) with h | h
    · exact hne i x hx (e.trans h)
    · have := (hP1 i x hx).lt
      omega)
  have hK' : va_K D vwCl (tys ++ ty) s := hK.app (va_K.moved (by rw [← e2]; exact X'.warmed.alike.symm) hKw)
  obtain ⟨t2, a1, b1⟩ := kk w ty T'.heap (locs ++ L) hrs hP' hD' hK' hS' T' rfl X'
  exact ⟨t2, stp t2 a1, b1⟩
end
theorem XC.cg {q q' : Nat → Nat} {A : Nat → Prop} {U : State} (hq : ∀ i, 86 ≤ i → q' i = q i) (h : XC q A U) : XC q' A U := by
  refine ⟨fun i hi => ?_, ?_, fun i hi => ?_, h.2.2.2⟩
  · rw [hq _ (by omega)]; exact h.1 i hi
  · rw [hq 92 (by omega), hq 93 (by omega)]; exact h.2.1
  · rw [hq (92 + i) (by omega), hq (94 + i) (by omega)]; exact h.2.2.1 i hi
theorem XT.cg {q q' : Nat → Nat} {A : Nat → Prop} {U : State} (hq : ∀ i, 86 ≤ i → q' i = q i) (h : XT q A U) : XT q' A U := by
  refine ⟨h.1.cg hq, ?_, h.2.2⟩
  rw [hq 96 (by omega), hq 97 (by omega)]
  exact h.2.1
theorem lwdD {K : LT} {A : Nat → Prop} {μ ν μ' ν' : Mm} {f f' : Nat → Int64} (h : va_D A (LWd K μ ν f)) : va_D A (LWd K μ' ν' f') := by
  have g : ∀ (k : Nat) (x : Nat × va_E), (LWd K μ' ν' f')[k]? = some x → ∃ y, (LWd K μ ν f)[k]? = some y ∧ y.1 = x.1 := by
    intro k x hx
    rcases lwd_inv hx with ⟨rfl, rfl⟩ | ⟨j, hj, rfl, rfl⟩ | ⟨j, hj, rfl, rfl⟩
    · exact ⟨_, rfl, rfl⟩
    · exact ⟨_, lwd_C hj, rfl⟩
    · exact ⟨_, lwd_M hj, rfl⟩
  refine ⟨fun i j x y hx hy e1 => ?_, fun k x hx => ?_⟩
  · obtain ⟨x', hx', ex⟩ := g i x hx
    obtain ⟨y', hy', ey⟩ := g j y hy
    exact h.1 i j x' y' hx' hy' (by rw [ex, ey, e1])
  · obtain ⟨x', hx', ex⟩ := g k x hx
    rw [← ex]
    exact h.2 k x' hx'
theorem isNst_on {w : Cond} (h : isNst w = true) : w.onTables = true := by
  unfold isNst at h
  split at h
  · rfl
  · rfl
  · cases h
set_option maxHeartbeats 4000000 in
set_option maxRecDepth 100000 in
theorem whole_start {p : Program} {e : Env} {s : State} {m : MethodId} {below : List Frame} {meth : Method} {c : Code} (l : Launch) (hflags : l.flags = flags0) {b L : Nat} {xs : Nat → Int32} (hL : L ≤ 3072) (C0 : lw_At p s m meth c b L xs) : W p l e room_1 s m #[Value.ref b] below meth c s.heap [] 0 0 (lw_Z below #[Value.ref b] s) (entryFrame m ([Value.ref b] : List Value).toArray 7) := by
  obtain ⟨hx, hb, hr, hml, hown, hts, hX, hbl, hlocks, hgv⟩ := id C0
  obtain ⟨q0, hXE, hXT⟩ := prem hts hgv
  have htg : ∀ w ∈ lw_g, w.before #[Value.ref b] s = true := fun w hw => hts w (List.mem_filter.mp hw).1
  have hNW : NW s := fun w hw => va_Nw.of (isNst_on (List.mem_filter.mp hw).2) (hts w (List.mem_filter.mp hw).1)
  have hA : ∀ q : Nat, s.heap.size ≤ q → (fun q : Nat => s.heap.size ≤ q) q := fun _ h => h
  have hS : CallFix p m c code 7 s #[Value.ref b] lw_g R_law := ⟨hx, hb, hml, hown, htg⟩
  obtain ⟨c0, i0, hK0⟩ := u_known (C := RX0) (T := TX0) (N := 3) (n := 3) htg okX0.2 (htg _ (lw_t1 159 rfl rfl))
  obtain ⟨c1, i1, hK1⟩ := u_known (C := RX1) (T := TX1) (N := 3) (n := 3) htg okX1.2 (htg _ (lw_t1 211 rfl rfl))
  obtain ⟨c2, i2, hK2⟩ := u_known (C := RX2) (T := TX2) (N := 6) (n := 6) htg okX2.2 (htg _ (lw_t2 17 rfl rfl))
  obtain ⟨c3, i3, hK3⟩ := u_known (C := RX3) (T := TX3) (N := 4) (n := 4) htg okX3.2 (htg _ (lw_t1 178 rfl rfl))
  obtain ⟨c4, i4, hK4⟩ := u_known (C := RX4) (T := TX4) (N := 3) (n := 3) htg okX4.2 (htg _ (lw_t1 115 rfl rfl))
  obtain ⟨c5, i5, hK5⟩ := u_known (C := RX5) (T := TX5) (N := 2) (n := 2) htg okX5.2 (htg _ (lw_t1 109 rfl rfl))
  obtain ⟨c6, i6, hK6⟩ := u_known (C := RX6) (T := TX6) (N := 6) (n := 6) htg okX6.2 (htg _ (lw_t1 228 rfl rfl))
  obtain ⟨c7, i7, hK7⟩ := u_known (C := RX7) (T := TX7) (N := 1) (n := 1) htg okX7.2 (htg _ (lw_t1 144 rfl rfl))
  obtain ⟨c8, i8, hK8⟩ := u_known (C := RX8) (T := TX8) (N := 5) (n := 5) htg okX8.2 (htg _ (lw_t1 36 rfl rfl))
  obtain ⟨c9, i9, hK9⟩ := u_known (C := RX9) (T := TX9) (N := 3) (n := 3) htg okX9.2 (htg _ (lw_t1 70 rfl rfl))
  obtain ⟨c10, i10, hK10⟩ := u_known (C := RX10) (T := TX10) (N := 3) (n := 3) htg okX10.2 (htg _ (lw_t1 64 rfl rfl))
  obtain ⟨c11, i11, hK11⟩ := u_known (C := RX11) (T := TX11) (N := 17) (n := 17) htg okX11.2 (htg _ (lw_t1 28 rfl rfl))
  obtain ⟨c12, i12, hK12⟩ := u_known (C := RX12) (T := TX12) (N := 46) (n := 46) htg okX12.2 (htg _ (lw_t5 209 rfl rfl))
  obtain ⟨D, hK⟩ : ∃ D : va_G, va_K D vwCl [] s := by
    refine ⟨(fun k => if k = 0 then c0 else if k = 1 then c1 else if k = 2 then c2 else if k = 3 then c3 else if k = 4 then c4 else if k = 5 then c5 else if k = 6 then c6 else if k = 7 then c7 else if k = 8 then c8 else if k = 9 then c9 else if k = 10 then c10 else if k = 11 then c11 else c12, fun k => if k = 0 then i0 else if k = 1 then i1 else if k = 2 then i2 else if k = 3 then i3 else if k = 4 then i4 else if k = 5 then i5 else if k = 6 then i6 else if k = 7 then i7 else if k = 8 then i8 else if k = 9 then i9 else if k = 10 then i10 else if k = 11 then i11 else i12), fun k q hq => ?_, fun k q h => by simp at h⟩
    match k, hq with
    | 0, hq => cases hq; exact hK0
    | 1, hq => cases hq; exact hK1
    | 2, hq => cases hq; exact hK2
    | 3, hq => cases hq; exact hK3
    | 4, hq => cases hq; exact hK4
    | 5, hq => cases hq; exact hK5
    | 6, hq => cases hq; exact hK6
    | 7, hq => cases hq; exact hK7
    | 8, hq => cases hq; exact hK8
    | 9, hq => cases hq; exact hK9
    | 10, hq => cases hq; exact hK10
    | 11, hq => cases hq; exact hK11
    | 12, hq => cases hq; exact hK12
    | k + 13, hq => simp [vwCl] at hq
  have hS0 : va_S (fun q : Nat => s.heap.size ≤ q) s.heap s.heap [] := va_S.rf
  have hP : va_P D vwCl [] s.heap := fun k q h => by simp at h
  have hD : va_D (fun q : Nat => s.heap.size ≤ q) [] := ⟨fun i j p q h => by simp at h, fun k q h => by simp at h⟩
  have hl := lv_entry ([.ref b]) (n := 7) (Nat.le_of_ble_eq_true rfl)
  rw [lg_entry_eq]
  generalize (lg_sl ([.ref b]) ++ List.replicate (7 - (lg_sl ([.ref b])).length) Slot.unset).toArray = ls at hl ⊢
  have hl : lv_has ls 7 [(0, .ref b)] := hl
  refine va_new (ci := 11) (fs := [.null, .null, .null, .null, .null, .null, .null, .null, .null, .null, .null, .null, .null, .int 0, .int 0, .int 0, .int 0]) hx hb htg okX11.2 tyX11 tyX11_ok hown (htg _ (lw_t1 27 rfl rfl)) (htg _ (lw_t1 28 rfl rfl)) (htg _ (lw_t1 1 rfl rfl)) hK hP hD hS0 hA okX11.1 (by decide) (Nat.le_of_ble_eq_true rfl) (Nat.le_of_ble_eq_true rfl) dLw_0 (fun h1 H hP hD hS1 => ?_)
  refine lv_dup hx hb dLw_3 rfl ?_
  refine w_ctor (As := []) (rest := [.ref h1]) (b := s.heap.size) (q := q0) hS dLw_4 (lw_t1 29 rfl rfl) kX11_init rfl kiX11_init cnX11 rfl (Nat.le_of_ble_eq_true rfl) ⟨Nat.le_of_ble_eq_true rfl, Nat.le_of_ble_eq_true rfl⟩ (Nat.le_of_ble_eq_true rfl) (Nat.le_of_ble_eq_true rfl) hA hA (Nat.le_refl _) hXE hNW hP hD hK hS1 hl.1 (fun w ty H locs hrs hPa hDa hKa hS2 => ?_)
  obtain ⟨qC, ca, hq0, hqs, rfl, rfl⟩ := hrs
  subst hq0
  refine lv_astore_n (lv' := [(1, .ref (qC 0)), (0, .ref b)]) hx hb dLw_7 rfl hl (by decide) rfl (fun ls hl => ?_)
  refine va_new (ci := 12) (fs := [.int 0, .null, .int 0, .int 0, .int 0, .int 0, .null, .null, .null, .null, .null, .null, .null, .int 0, .int 0, .null, .null, .null, .null, .null, .int 0, .int 0, .null, .null, .null, .int 0, .int 0, .null, .null, .int 0, .int 0, .int 0, .int 0, .int 0, .null, .int 0, .long 0, .null, .null, .null, .null, .int 0, .int 0, .int 0, .null, .int 0]) hx hb htg okX12.2 tyX12 tyX12_ok hown (htg _ (lw_t5 208 rfl rfl)) (htg _ (lw_t5 209 rfl rfl)) (htg _ (lw_t1 14 rfl rfl)) hKa hPa hDa hS2 hA okX12.1 (by decide) (Nat.le_of_ble_eq_true rfl) (Nat.le_of_ble_eq_true rfl) dLw_8 (fun h2 H hPb hDb hS3 => ?_)
  refine lv_dup hx hb dLw_11 rfl ?_
  refine w_ctor (As := []) (rest := [.ref h2]) (b := s.heap.size) (q := q0) hS dLw_12 (lw_t5 210 rfl rfl) kX12_init rfl kiX12_init cnX12 rfl (Nat.le_of_ble_eq_true rfl) ⟨Nat.le_of_ble_eq_true rfl, Nat.le_of_ble_eq_true rfl⟩ (Nat.le_of_ble_eq_true rfl) (Nat.le_of_ble_eq_true rfl) hA hA (Nat.le_refl _) hXE hNW hPb hDb hKa hS3 hl.1 (fun w ty H locs hrs hPd hDd hKd hS4 => ?_)
  obtain ⟨qM, cr, hr0, rfl, rfl⟩ := hrs
  subst hr0
  refine lv_astore_n (lv' := [(2, .ref (qM 0)), (1, .ref (qC 0)), (0, .ref b)]) hx hb dLw_15 rfl hl (by decide) rfl (fun ls hl => ?_)
  refine lv_iconst (v := 1) hx hb dLw_16 (by decide) ?_
  refine va_newa (atype := .long) (ty := .long) (N' := 1) (a0 := (1, .inr (.inl (fun _ => 0)))) hx hb (htg _ (lw_t8 89 rfl rfl)) rfl hKd hPd hDd hS4 hA (fun _ => rfl) (by decide) (by decide) (by decide) (Nat.le_of_ble_eq_true rfl) (Nat.le_of_ble_eq_true rfl) dLw_17 (fun o co H hKe hPe hDe hS5 => ?_)
  refine lv_astore_n (lv' := [(3, .ref o), (2, .ref (qM 0)), (1, .ref (qC 0)), (0, .ref b)]) hx hb dLw_19 rfl hl (by decide) rfl (fun ls hl => ?_)
  refine lv_iconst (v := iI 0) hx hb dLw_20 rfl ?_
  refine lv_istore (lv' := [(4, .int (iI 0)), (3, .ref o), (2, .ref (qM 0)), (1, .ref (qC 0)), (0, .ref b)]) hx hb dLw_21 hl (by decide) rfl (fun ls hl => ?_)
  have hP9 : va_P D vwCl ((o, loE co (fun _ => 0)) :: (wld PC qC ca mu0 ++ wld PM qM cr nu0)) H := va_Psw (w1 := wld PC qC ca mu0 ++ wld PM qM cr nu0) (w2 := [(o, loE co (fun _ => 0))]) hPe
  have hD9 : va_D (fun q : Nat => s.heap.size ≤ q) ((o, loE co (fun _ => 0)) :: (wld PC qC ca mu0 ++ wld PM qM cr nu0)) := va_Dsw (w1 := wld PC qC ca mu0 ++ wld PM qM cr nu0) (w2 := [(o, loE co (fun _ => 0))]) hDe
  have hK9 : va_K D vwCl ((wty PC ca ++ wty PM cr) ++ [(co, .long)]) s := hKe
  have sub1 : ∀ (t1 t2 : TyL), va_K D vwCl (t1 ++ t2) s → va_K D vwCl t1 s ∧ va_K D vwCl t2 s := fun t1 t2 h => ⟨⟨h.1, fun k q hk => h.2 k q (by rw [List.getElem?_append_left (List.getElem?_eq_some_iff.mp hk).1]; exact hk)⟩, ⟨h.1, fun k q hk => h.2 (t1.length + k) q (by rw [List.getElem?_append_right (by omega), show t1.length + k - t1.length = k by omega]; exact hk)⟩⟩
  have k1 := sub1 _ _ hK9
  have k2 := sub1 _ _ k1.1
  have hfl : l.stackTraces = false := by
    show (!l.flags.contains noTraceFlag) = false
    rw [hflags]
    decide +kernel
  have hOk : LOk ((p, l, e, s, m, below, meth, c), (qC, ca, qM, cr, D, (o, co), (b, L, xs))) := ⟨⟨C0, hL, hfl⟩, ⟨k2.1, k2.2, k1.2⟩, fun μ ν f => lwdD (K := ((p, l, e, s, m, below, meth, c), (qC, ca, qM, cr, D, (o, co), (b, L, xs)))) (μ := mu0) (ν := nu0) (f := fun _ => 0) hD9, hXT.cg hqs, hNW⟩
  refine W.widen (k := 200 + 0) (n := 30000 + 6 * 0) (Nat.le_of_ble_eq_true rfl) (Nat.le_of_ble_eq_true rfl) ?_
  exact law_loop hOk (L + 1) 0 mu0 nu0 (fun _ => 0) rel0 (Nat.zero_le _) (by show L < L + 1 + 0; omega) H _ ls hP9 hS5 (lv_sub hl [4, 3, 2, 1, 0] rfl)
