/-! ## a text's length, where the class's cells are not made yet -/
def PZ : LPk := (layC, 0, XC)
theorem XSo : XOk PZ := XCo
section
variable {Q : Option AV → Mm → Prop} {K : KT} {cc : ByteArray} {own : String} {nL d : Nat} {ret : Option FieldType} {pc n : Nat} {ls : List (Option AV)} {st : List AV} {μ : Mm}
theorem aw_XCs (hO : KOk PZ Q K cc own nL d ret) : XC K.q (fun a => K.b ≤ a) K.s ∧ ∀ a, K.A a → K.b ≤ a := by
  have h := hO.2.2.2.1
  have eP := hO.2.2.2.2.2.2.1
  refine ⟨?_, hO.2.2.2.2.2.1⟩
  rw [eP] at h
  exact h
theorem aw_strV_s {i ix : Nat} (hO : KOk PZ Q K cc RJ0 nL d ret) (hd : decode cc pc = .ok (.getfield ix, 3)) (hn : pc + 3 = n) (hi : i < 2) (hw : Cond.fieldLink RJ0 ix RJ0 "value" "[B" ∈ lw_g) (kk : AW K n ls (vR (94 + i) :: st) μ) : AW K pc ls (vR (92 + i) :: st) μ := by
  subst hn
  intro H locs Ls hP hS hl
  obtain ⟨hX, hA⟩ := aw_XCs hO
  exact vk_getf hO.1.1 hO.1.2.1 ((hX.2.2.1 i hi).2.2.1.narrow hA) hS hO.1.2.2.2.1 (hO.1.2.2.2.2 _ hw) (fun _ h => h) hd (kk H locs Ls hP hS hl)
theorem aw_strC_s {i ix : Nat} (hO : KOk PZ Q K cc RJ0 nL d ret) (hd : decode cc pc = .ok (.getfield ix, 3)) (hn : pc + 3 = n) (hi : i < 2) (hw : Cond.fieldLink RJ0 ix RJ0 "coder" "B" ∈ lw_g) (kk : AW K n ls (vI 0 :: st) μ) : AW K pc ls (vR (92 + i) :: st) μ := by
  subst hn
  intro H locs Ls hP hS hl
  obtain ⟨hX, hA⟩ := aw_XCs hO
  exact vk_getf (v := .int 0) hO.1.1 hO.1.2.1 ((hX.2.2.1 i hi).2.1.narrow hA) hS hO.1.2.2.2.1 (hO.1.2.2.2.2 _ hw) (fun _ h => h) hd (kk H locs Ls hP hS hl)
theorem aw_cmpS_s {ix : Nat} (hO : KOk PZ Q K cc RJ0 nL d ret) (hd : decode cc pc = .ok (.getstatic ix, 3)) (hn : pc + 3 = n) (hw : Cond.fieldLink RJ0 ix RJ0 "COMPACT_STRINGS" "Z" ∈ lw_g) (kk : AW K n ls (vI 1 :: st) μ) : AW K pc ls st μ := by
  subst hn
  intro H locs Ls hP hS hl
  obtain ⟨hX, hA⟩ := aw_XCs hO
  exact va_gets (v := .int 1) hO.1.1 hO.1.2.1 (hX.2.2.2.narrow hA) hS hO.1.2.2.2.1 (hO.1.2.2.2.2 _ hw) (fun _ h => h) hd (kk H locs Ls hP hS hl)
theorem aw_strN_s {i : Nat} (hO : KOk PZ Q K cc own nL d ret) (hd : decode cc pc = .ok (.arraylength, 1)) (hn : pc + 1 = n) (hi : i < 2) (kk : AW K n ls (vI ((txL i : Nat) : Int) :: st) μ) : AW K pc ls (vR (94 + i) :: st) μ := by
  subst hn
  intro H locs Ls hP hS hl
  obtain ⟨hX, hA⟩ := aw_XCs hO
  exact va_tlen hO.1.1 hO.1.2.1 ((hX.2.2.1 i hi).2.2.2.narrow hA) hS (v := iI ((txL i : Nat) : Int)) Int32.ofInt_eq_ofNat.symm hd (kk H locs Ls hP hS hl)
theorem aw_callVO_s {d' ix na maxL i : Nat} {y : MethodName} {bytes : ByteArray} {ret' : Option FieldType} {as : List AV} {Q' : Option AV → Mm → Prop} (hO : KOk PZ Q K cc own nL d ret) (hd : decode cc pc = .ok (.invokevirtual ix, 3)) (hn : pc + 3 = n) (hw : Cond.methodLink own ix y ∈ lw_g) (hy : CkV y bytes maxL ret' na) (hi : i < 2) (hyc : y.cls = RJ0) (hC : Ct PZ d' y bytes maxL ret' (vR (92 + i) :: as) μ Q') (hdd : d' + 1 ≤ d) (hna : as.length = na) (hnl : ls.length = nL) (hst : (st.map fun v => (cv (fun _ => 0) v).category).sum ≤ 8)
    (kk : ∀ r μ', Q' r μ' → AW K n ls (r.toList ++ st) μ') : AW K pc ls (as.reverse ++ vR (92 + i) :: st) μ := by
  subst hn
  intro H locs Ls hP hS hl
  have hts := hO.1.2.2.2.2
  have hst2 := st_sum (q := K.q) hst
  obtain ⟨hX, hA⟩ := aw_XCs hO
  have hrec : ∃ cell : Cell, H[K.q (92 + i)]? = some cell ∧ cell.vm.isStatics = false ∧ K.s.vm.findClass y.cls = some cell.cls := by
    obtain ⟨cell, h1, h2, h3, -⟩ := ((hX.2.2.1 i hi).1.narrow hA).kept hS.2.1
    exact ⟨cell, h1, h2, by rw [hyc]; exact h3⟩
  have eP := hO.2.2.2.2.2.2.1
  have cw : CallW K.R K.s K.args own y.cls ix y bytes maxL ret' (.code y bytes maxL ret' :: lw_g) (rmd d') 0 0 na := ⟨callB_of na hts (lw_goodc hy.1.1) rfl rfl rfl (hts _ hy.1.2.1) (hts _ hw) hy.1.2.2.1 (by rw [hO.2.1.2.2.2.1]; exact rmd_in hdd hy.1.2.2.2), hts _ hy.2.1, hts _ hy.2.2⟩
  rw [← eP] at hC
  refine aw_back (sz := H.size) hO hS hP hl rfl (va_runV (As := as.map (cv K.q)) (rest := st.map (cv K.q)) (b := K.q (92 + i)) ⟨hO.1.1, hO.1.2.1, hO.1.2.2.1, hO.1.2.2.2.1, hts⟩ (hC K.l K.q K.ca K.D H.size K.b) cw ⟨ct_blind hO.2.2.1, hrec, aw_pre (as := vR (92 + i) :: as) hO hS hP⟩ rfl (by rw [List.length_map]; exact hna) (hl.1.trans hnl) (by simp [List.map_append, List.map_reverse, cv]) (by show 2 * 0 + _ ≤ 8; omega) hd ⟨Nat.zero_le _, Nat.zero_le _⟩) kk
theorem aw_callVOI_s {d' ix na maxL i : Nat} {y : MethodName} {bytes : ByteArray} {ret' : Option FieldType} {as : List AV} {v : Int} {st0 : List AV} (hO : KOk PZ Q K cc own nL d ret) (hd : decode cc pc = .ok (.invokevirtual ix, 3)) (hn : pc + 3 = n) (hw : Cond.methodLink own ix y ∈ lw_g) (hy : CkV y bytes maxL ret' na) (hi : i < 2) (hyc : y.cls = RJ0) (hC : CtI PZ d' y bytes maxL ret' (vR (92 + i) :: as) μ v) (hdd : d' + 1 ≤ d) (hs : as.reverse ++ vR (92 + i) :: st = st0) (hna : as.length = na) (hnl : ls.length = nL) (hst : (st.map fun v => (cv (fun _ => 0) v).category).sum ≤ 8)
    (kk : AW K n ls (vI v :: st) μ) : AW K pc ls st0 μ := by
  subst hs
  exact aw_callVO_s hO hd hn hw hy hi hyc hC hdd hna hnl hst (fun r m h => by obtain ⟨rfl, rfl⟩ := h; exact kk)
end
set_option maxHeartbeats 4000000 in
set_option maxRecDepth 100000 in
theorem ctC_coder_s (μ : Mm) {i : Nat} (hi : i < 2) : CtI PZ 0 yJ0_coder_7d493 cJ0_coder_7d493 1 (some .byte) [vR (92 + i)] μ 0 := by
  refine ct_introF [some (vR (92 + i))] RJ0 pf_coder rfl XSo rfl (Nat.le_of_ble_eq_true rfl) (fun K hO => ?_)
  refine aw_cmpS_s hO dJ0_coder_7d493_0 rfl (lw_t1 192 rfl rfl) ?_
  refine aw_if_eq (tgt := 13) hO dJ0_coder_7d493_3 rfl rfl (inRlit _) (fun c3 => ?_) (fun c3 => ?_)
  · exact absurd c3 (by omega)
  · refine aw_aload_n hO dJ0_coder_7d493_6 rfl rfl ?_
    refine aw_strC_s hO dJ0_coder_7d493_7 rfl hi (lw_t8 108 rfl rfl) ?_
    refine aw_goto (tgt := 14) hO dJ0_coder_7d493_10 rfl ?_
    refine aw_bret0 hO dJ0_coder_7d493_14 ?_
    exact rI rfl
set_option maxHeartbeats 4000000 in
set_option maxRecDepth 100000 in
theorem ctC_length_s (μ : Mm) {i : Nat} (hi : i < 2) : CtI PZ 1 yJ0_length_8abf5 cJ0_length_8abf5 1 (some .int) [vR (92 + i)] μ ((txL i : Nat) : Int) := by
  refine ct_introF [some (vR (92 + i))] RJ0 pf_length rfl XSo rfl (Nat.le_of_ble_eq_true rfl) (fun K hO => ?_)
  refine aw_aload_n hO dJ0_length_8abf5_0 rfl rfl ?_
  refine aw_strV_s hO dJ0_length_8abf5_1 rfl hi (lw_t8 107 rfl rfl) ?_
  refine aw_strN_s hO dJ0_length_8abf5_4 rfl hi ?_
  refine aw_aload_n hO dJ0_length_8abf5_5 rfl rfl ?_
  refine aw_callVOI_s (as := []) (st := [vI (((txL i) : Nat) : Int)]) hO dJ0_length_8abf5_6 rfl (lw_t1 188 rfl rfl) kJ0_coder_7d493 hi rfl (ctC_coder_s μ hi) (by decide) rfl rfl rfl (Nat.le_of_ble_eq_true rfl) ?_
  refine aw_ishr hO dJ0_length_8abf5_9 rfl ?_
  refine aw_iret hO dJ0_length_8abf5_10 ?_
  exact rI (shr0 ⟨txL i, by have := txL_lt (i := i); omega⟩)
/-! ## constructors: worlds that grow -/
def rmn (d mc ms : Nat) : Room := { frames := d, cells := mc, slots := ms, locals := 60 * d }
/-- what constructors read beside their own cells -/
def XE (q : Nat → Nat) (A : Nat → Prop) (U : State) : Prop := XC q A U ∧ vk_R RX3 11 "ckvmhy" (q 93) U ∧ va_AO RX4 U ∧ XR U
theorem XE.mv {q : Nat → Nat} {A : Nat → Prop} {u U : State} (hvm : u.vm = U.vm ∨ u.WarmedH U.vm) (hk : ∀ a : Nat, a < u.heap.size → ¬ A a → U.heap[a]? = u.heap[a]?) (h : XE q A u) : XE q A U := by
  have hal : u.vm.Alike U.vm := by
    rcases hvm with e | w
    · rw [e]; exact Vm.Alike.refl _
    · exact w.alike
  refine ⟨XCo q A u U hvm hk h.1, ?_, h.2.2.1.moved hal, h.2.2.2.moved hal⟩
  rcases hvm with e | w
  · exact vk_R.same e.symm h.2.1
  · exact vk_R.warm w h.2.1
abbrev TyL : Type := List (ClassId × FieldType)
abbrev NT : Type := (Program × Launch × Env × Room × State × MethodId × Array Value × List Frame × Method × Code) × (va_G × (Nat → Prop) × Nat × (Nat → Nat) × (va_W → TyL → Prop))
abbrev NT.p (K : NT) : Program := K.1.1
abbrev NT.l (K : NT) : Launch := K.1.2.1
abbrev NT.e (K : NT) : Env := K.1.2.2.1
abbrev NT.R (K : NT) : Room := K.1.2.2.2.1
abbrev NT.s (K : NT) : State := K.1.2.2.2.2.1
abbrev NT.m (K : NT) : MethodId := K.1.2.2.2.2.2.1
abbrev NT.args (K : NT) : Array Value := K.1.2.2.2.2.2.2.1
abbrev NT.below (K : NT) : List Frame := K.1.2.2.2.2.2.2.2.1
abbrev NT.meth (K : NT) : Method := K.1.2.2.2.2.2.2.2.2.1
abbrev NT.c (K : NT) : Code := K.1.2.2.2.2.2.2.2.2.2
abbrev NT.D (K : NT) : va_G := K.2.1
abbrev NT.A (K : NT) : Nat → Prop := K.2.2.1
abbrev NT.b (K : NT) : Nat := K.2.2.2.1
abbrev NT.q (K : NT) : Nat → Nat := K.2.2.2.2.1
abbrev NT.RS (K : NT) : va_W → TyL → Prop := K.2.2.2.2.2
/-- a constructor's end -/
def NQ (D : va_G) (A : Nat → Prop) (RS : va_W → TyL → Prop) : Array Value → State → Outcome → State → Prop := fun _ st oc t => (oc = .returned none ∧ ∃ (w : va_W) (ty : TyL), RS w ty ∧ va_P D vwCl w t.heap ∧ va_K D vwCl ty t ∧ va_D A w) ∧ va_F A st t
def BW (K : NT) (pc : Nat) (lv : List (Nat × Value)) (nL : Nat) (st : List Value) (ws : va_W) (tys : TyL) (ce sl : Nat) : Prop := ∀ (H : Heap) (locs : List Loc) (Ls : Array Slot), va_P K.D vwCl ws H → va_D K.A ws → va_K K.D vwCl tys K.s → va_S K.A K.s.heap H locs → lv_has Ls nL lv → W K.p K.l K.e K.R K.s K.m K.args K.below K.meth K.c H locs ce sl (MQ K.below (NQ K.D K.A K.RS) K.args K.s K.R.cells K.R.slots K.A) (F0 K.m pc Ls st)
def NOk (K : NT) (cc : ByteArray) (own : String) (nL d mc ms : Nat) : Prop :=
  (K.p.tables.exec = Jvm.exec ∧ K.c.code = cc ∧ K.c.maxLocals = nL ∧ K.s.vm.findClass own = some K.m.cls ∧ ∀ w ∈ lw_g, w.before K.args K.s = true) ∧
  ((∀ a, K.s.heap.size ≤ a → K.A a) ∧ K.R = rmn d mc ms ∧ K.meth.sig.returnType = none ∧ K.meth.locks = false ∧ K.meth.name = "<init>") ∧
  (NW K.s ∧ XE K.q (fun a => K.b ≤ a) K.s ∧ K.b ≤ K.s.heap.size ∧ ∀ a, K.A a → K.b ≤ a)
def CtN (d mc ms : Nat) (y : MethodName) (cc : ByteArray) (maxL ci : Nat) (fs0 As : List Value) (RS : (Nat → Nat) → Nat → va_W → TyL → Prop) : Prop :=
  ∀ (l : Launch) (D : va_G) (q : Nat → Nat) (sz b h0 : Nat), Met l y (.code y cc maxL none :: lw_g) (rmn d mc ms) (va_Pc (.ref h0 :: As) (fun U => U.heap.size = sz ∧ va_P D vwCl [(h0, .inr (ci, fs0))] U.heap ∧ va_K D vwCl [] U ∧ (b ≤ h0 ∧ b ≤ sz) ∧ XE q (fun a => b ≤ a) U ∧ NW U)) (NQ D (va_A [(h0, .inr (ci, fs0))] sz) (RS q h0)) mc ms (va_A [(h0, .inr (ci, fs0))] sz)
theorem va_A1 {h0 sz a : Nat} {e : va_E} : va_A [(h0, e)] sz a ↔ a = h0 ∨ sz ≤ a := by
  constructor
  · rintro (⟨k, e', hk⟩ | h)
    · have hz : k < 1 := (List.getElem?_eq_some_iff.mp hk).1
      rw [show k = 0 by omega] at hk
      cases hk
      exact Or.inl rfl
    · exact Or.inr h
  · rintro (rfl | h)
    · exact Or.inl ⟨0, e, rfl⟩
    · exact Or.inr h
theorem va_D1 {A : Nat → Prop} {h0 : Nat} {e : va_E} (h : A h0) : va_D A [(h0, e)] := by
  refine ⟨fun i j p q hi hj _ => ?_, fun k q hk => ?_⟩
  · have := (List.getElem?_eq_some_iff.mp hi).1
    have := (List.getElem?_eq_some_iff.mp hj).1
    simp at *
    omega
  · have hz : k < 1 := (List.getElem?_eq_some_iff.mp hk).1
    rw [show k = 0 by omega] at hk
    cases hk
    exact h
theorem ctn_intro {d mc ms : Nat} {y : MethodName} {cc : ByteArray} {maxL ci : Nat} {fs0 As : List Value} {RS : (Nat → Nat) → Nat → va_W → TyL → Prop} (own : String) (lv : Nat → List (Nat × Value)) (hy : plainName y.cls = true) (ho : y.cls = own) (hyn : y.name = "<init>") (hlv : ∀ h0, lv_args 0 (.ref h0 :: As) = lv h0) (hle : ∀ h0 : Nat, (lg_sl (.ref h0 :: As)).length ≤ maxL)
    (body : ∀ (K : NT) (h0 : Nat), NOk K cc own maxL d mc ms → K.RS = RS K.q h0 → BW K 0 (lv h0) maxL [] [(h0, .inr (ci, fs0))] [] 0 0) : CtN d mc ms y cc maxL ci fs0 As RS := by
  intro l D q sz b h0
  refine Met.ofW (cc := cc) (maxL := maxL) (ret := none) hy rfl ?_
  intro p e s m args below meth c s₁ B hml hv
  obtain ⟨rfl, hsz, hP, hK, hb, hX, hN⟩ := hv
  have hts0 := atoms_spec (ws := .code y cc maxL none :: lw_g) B.pre
  have hown : s.vm.findClass y.cls = some m.cls := findClass_of_methodNamed B.named
  have hin : meth.name = "<init>" := by rw [(name_of_methodNamed B.named B.method).1]; exact hyn
  subst hsz
  subst ho
  have hw := body ((p, l, e, rmn d mc ms, s, m, (Value.ref h0 :: As).toArray, below, meth, c), (D, va_A [(h0, .inr (ci, fs0))] s.heap.size, b, q, RS q h0)) h0 ⟨⟨B.exec, B.bytes, hml, hown, fun w hw => hts0 w (List.mem_cons_of_mem _ hw)⟩, ⟨fun a h => Or.inr h, rfl, B.returns, B.notSynchronized, hin⟩, hN, hX, hb.2, fun a h => by
    rcases va_A1.mp h with rfl | h
    · exact hb.1
    · exact Nat.le_trans hb.2 h⟩ rfl
  rw [lg_entry_eq]
  refine hw s.heap [] _ hP (va_D1 (va_A1.mpr (Or.inl rfl))) hK va_S.rf ?_
  rw [← hlv]
  exact lv_entry _ (hle h0)
section
variable {K : NT} {cc : ByteArray} {own : String} {nL d mc ms pc n : Nat} {lv : List (Nat × Value)} {st : List Value} {ws : va_W} {tys : TyL} {ce sl : Nat}
theorem bw_ws {ws' : va_W} (h : ws = ws') (kk : BW K pc lv nL st ws' tys ce sl) : BW K pc lv nL st ws tys ce sl := by rw [h]; exact kk
theorem bw_sub {ws' : va_W} {tys' : TyL} (h1 : ∀ H, va_P K.D vwCl ws H → va_P K.D vwCl ws' H) (h2 : va_D K.A ws → va_D K.A ws') (h3 : va_K K.D vwCl tys K.s → va_K K.D vwCl tys' K.s) (kk : BW K pc lv nL st ws' tys' ce sl) : BW K pc lv nL st ws tys ce sl := fun H locs Ls hP hD hK hS hl => kk H locs Ls (h1 H hP) (h2 hD) (h3 hK) hS hl
theorem bw_ret (hO : NOk K cc own nL d mc ms) (hd : decode cc pc = .ok (.return_, 1)) (hRS : K.RS ws tys) (h1 : ce ≤ mc) (h2 : sl ≤ ms) : BW K pc lv nL [] ws tys ce sl := by
  intro H locs Ls hP hD hK hS hl
  have hR := hO.2.1.2.1
  refine W.widen (k := K.R.cells) (n := K.R.slots) (by rw [hR]; exact h1) (by rw [hR]; exact h2) ?_
  exact W.vret hO.1.1 hO.1.2.1 hO.2.1.2.2.1 (fun t ht hW => ⟨⟨rfl, ws, tys, hRS, by rw [ht]; exact hP, va_K.moved hW.alike hK, hD⟩, hS.F ht⟩) hS.2.2 hd (hlocks := hO.2.1.2.2.2.1)
theorem bw_aload (k : Nat) {i : Fin 4} {x : Nat} (hO : NOk K cc own nL d mc ms) (hd : decode cc pc = .ok (.aload_n i, 1)) (hn : pc + 1 = n) (hv : lv[k]? = some ((i : Nat), .ref x)) (kk : BW K n lv nL (.ref x :: st) ws tys ce sl) : BW K pc lv nL st ws tys ce sl := by
  subst hn
  intro H locs Ls hP hD hK hS hl
  exact lv_aload_n hO.1.1 hO.1.2.1 hd rfl (lv_at hl k hv) (kk H locs Ls hP hD hK hS hl)
theorem bw_iconst {m : Int} (hO : NOk K cc own nL d mc ms) (hd : decode cc pc = .ok (.iconst m, 1)) (hn : pc + 1 = n) (kk : BW K n lv nL (.int (iI m) :: st) ws tys ce sl) : BW K pc lv nL st ws tys ce sl := by
  subst hn
  intro H locs Ls hP hD hK hS hl
  exact lv_iconst hO.1.1 hO.1.2.1 hd rfl (kk H locs Ls hP hD hK hS hl)
theorem bw_bipush {m : Int} (hO : NOk K cc own nL d mc ms) (hd : decode cc pc = .ok (.bipush m, 2)) (hn : pc + 2 = n) (hv : (Int8.ofInt m).toInt32 = iI m) (kk : BW K n lv nL (.int (iI m) :: st) ws tys ce sl) : BW K pc lv nL st ws tys ce sl := by
  subst hn
  intro H locs Ls hP hD hK hS hl
  exact lv_bipush hO.1.1 hO.1.2.1 hd hv (kk H locs Ls hP hD hK hS hl)
theorem bw_sipush {m : Int} (hO : NOk K cc own nL d mc ms) (hd : decode cc pc = .ok (.sipush m, 3)) (hn : pc + 3 = n) (hv : (Int16.ofInt m).toInt32 = iI m) (kk : BW K n lv nL (.int (iI m) :: st) ws tys ce sl) : BW K pc lv nL st ws tys ce sl := by
  subst hn
  intro H locs Ls hP hD hK hS hl
  exact lv_sipush hO.1.1 hO.1.2.1 hd hv (kk H locs Ls hP hD hK hS hl)
theorem bw_lconst0 (hO : NOk K cc own nL d mc ms) (hd : decode cc pc = .ok (.lconst 0, 1)) (hn : pc + 1 = n) (kk : BW K n lv nL (.long (lI 0) :: st) ws tys ce sl) : BW K pc lv nL st ws tys ce sl := by
  subst hn
  intro H locs Ls hP hD hK hS hl
  exact lv_lconst hO.1.1 hO.1.2.1 hd rfl (kk H locs Ls hP hD hK hS hl)
theorem bw_null (hO : NOk K cc own nL d mc ms) (hd : decode cc pc = .ok (.aconst_null, 1)) (hn : pc + 1 = n) (kk : BW K n lv nL (.null :: st) ws tys ce sl) : BW K pc lv nL st ws tys ce sl := by
  subst hn
  intro H locs Ls hP hD hK hS hl
  exact lv_null hO.1.1 hO.1.2.1 hd (kk H locs Ls hP hD hK hS hl)
theorem bw_dup {x : Nat} (hO : NOk K cc own nL d mc ms) (hd : decode cc pc = .ok (.dup, 1)) (hn : pc + 1 = n) (kk : BW K n lv nL (.ref x :: .ref x :: st) ws tys ce sl) : BW K pc lv nL (.ref x :: st) ws tys ce sl := by
  subst hn
  intro H locs Ls hP hD hK hS hl
  exact lv_dup hO.1.1 hO.1.2.1 hd rfl (kk H locs Ls hP hD hK hS hl)
theorem bw_obj {ix x : Nat} (hO : NOk K cc own nL d mc ms) (hd : decode cc pc = .ok (.invokespecial ix, 3)) (hn : pc + 3 = n) (hw : Cond.methodLink own ix objectInit ∈ lw_g) (hw2 : Cond.instanceMethod objectInit ∈ lw_g ∧ Cond.code objectInit ⟨#[0xb1]⟩ 1 none ∈ lw_g) (hdd : 1 ≤ d) (kk : BW K n lv nL [] ws tys ce sl) : BW K pc lv nL [.ref x] ws tys ce sl := by
  subst hn
  intro H locs Ls hP hD hK hS hl
  have hts := hO.1.2.2.2.2
  have hR := hO.2.1.2.1
  refine W.objInit hO.1.1 hO.1.2.1 hO.1.2.2.2.1 (hts _ hw) (hts _ hw2.1) (hts _ hw2.2) rfl (by rw [hO.1.2.2.1]; exact hl.1) rfl hd (by rw [hR]; exact hdd) (by rw [hR]; show 2 * 0 + 0 + 12 ≤ 60 * d; omega) ?_
  exact kk H locs Ls hP hD hK hS hl
theorem bw_newa {atype : ArrayType} {ty : FieldType} {N : Nat} {v : Int32} (hO : NOk K cc own nL d mc ms) (hd : decode cc pc = .ok (.newarray atype, 2)) (hn : pc + 2 = n) (hw : Cond.arrayClass (newarray.typeOf atype) ∈ lw_g) (hty : newarray.typeOf atype = ty) (hdf : defaultValue ty = .int 0) (hv : v = iI (N : Int)) (hN : N ≤ 10000) (hcb : componentBytes ty ≤ 8) (h1 : ce + 1 ≤ mc) (h2 : sl + N ≤ ms)
    (kk : ∀ (q : Nat) (cA : ClassId), BW K n lv nL (.ref q :: st) (ws ++ [(q, .inl (cA, N, .inl (fun _ => iI 0)))]) (tys ++ [(cA, ty)]) (ce + 1) (sl + N)) : BW K pc lv nL (.int v :: st) ws tys ce sl := by
  subst hn
  subst hv
  intro H locs Ls hP hD hK hS hl
  have hR := hO.2.1.2.1
  have e0 : ¬ iI (N : Int) < 0 := fun e => by
    have := (iI_lt (a := (N : Int)) (b := 0) ⟨by omega, by omega⟩ (inRlit _)).mp e
    omega
  refine va_newa (atype := atype) (a0 := (N, .inl (fun _ => iI 0))) hO.1.1 hO.1.2.1 (hO.1.2.2.2.2 _ hw) hty hK hP hD hS hO.2.1.1 (fun cA => by rw [hdf]; rfl) e0 (by rw [iI_nc (by omega) (by omega)]; rfl) (Nat.le_trans (Nat.mul_le_mul hN hcb) (by decide)) (by rw [hR]; exact h1) (by rw [hR]; exact h2) hd (fun q cA H1 hK1 hP1 hD1 hS1 => ?_)
  exact kk q cA H1 locs Ls hP1 hD1 hK1 hS1 hl
theorem bw_put {a ci f N ix : Nat} {C : String} {T : u_T} {ty0 : Nat → FieldType} {fs fs' : List Value} {w : va_W} {v : Value} (hO : NOk K cc own nL d mc ms) (hd : decode cc pc = .ok (.putfield ix, 3)) (hn : pc + 3 = n) (hC : ClsOk ci C T N) (hty : ∀ k, k < N → parseFieldDescriptor (T k).2.2.1 = some (ty0 k)) (hnm : ∀ a, a < N → ∀ b, b < N → a ≠ b → (T a).2.1 ≠ (T b).2.1) (hf : f < N) (hw : Cond.fieldLink own ix (T f).1 (T f).2.1 (T f).2.2.1 ∈ lw_g) (hown : (T f).1 = own) (hnar : narrow (ty0 f) v = v) (hfit : fits (ty0 f) v = true) (hlen : f < fs.length) (hfs : fs.set f v = fs')
    (kk : BW K n lv nL st ((a, .inr (ci, fs')) :: w) tys ce sl) : BW K pc lv nL (v :: .ref a :: st) ((a, .inr (ci, fs)) :: w) tys ce sl := by
  subst hn
  subst hfs
  intro H locs Ls hP hD hK hS hl
  have hts := hO.1.2.2.2.2
  by_cases hfin : (T f).2.2.2 = true
  · exact va_putF hO.1.1 hO.1.2.1 hts hC.2 ty0 hty hnm hO.1.2.2.2.1 hK hP hD hS 0 rfl hC.1 f hf (hts _ hw) (fun _ h => h) hfin hO.2.1.2.2.2.2 hown (hty f hf) hnar hfit hlen hd (fun H1 locs1 hP1 hD1 hS1 => kk H1 locs1 Ls hP1 hD1 hK hS1 hl)
  · exact va_put hO.1.1 hO.1.2.1 hts hC.2 ty0 hty hnm hO.1.2.2.2.1 hK hP hD hS 0 rfl hC.1 f hf (hts _ hw) (fun _ h => h) (by simpa using hfin) (hty f hf) hnar hfit hlen hd (fun H1 locs1 hP1 hD1 hS1 => kk H1 locs1 Ls hP1 hD1 hK hS1 hl)
theorem bw_get {a ci f N ix : Nat} {C : String} {T : u_T} {fs : List Value} {w : va_W} {v : Value} (hO : NOk K cc own nL d mc ms) (hd : decode cc pc = .ok (.getfield ix, 3)) (hn : pc + 3 = n) (hC : ClsOk ci C T N) (hf : f < N) (hw : Cond.fieldLink own ix (T f).1 (T f).2.1 (T f).2.2.1 ∈ lw_g) (hfs : fs[f]? = some v)
    (kk : BW K n lv nL (v :: st) ((a, .inr (ci, fs)) :: w) tys ce sl) : BW K pc lv nL (.ref a :: st) ((a, .inr (ci, fs)) :: w) tys ce sl := by
  subst hn
  intro H locs Ls hP hD hK hS hl
  have hts := hO.1.2.2.2.2
  exact va_get hO.1.1 hO.1.2.1 hts hC.2 hO.1.2.2.2.1 hK hP 0 rfl hC.1 f hf (hts _ hw) (fun _ h => h) (v := v) hfs hd (kk H locs Ls hP hD hK hS hl)
theorem bw_new {ci N ix : Nat} {C : String} {T : u_T} {ty0 : Nat → FieldType} {fs : List Value} (hO : NOk K cc own nL d mc ms) (hd : decode cc pc = .ok (.new ix, 3)) (hn : pc + 3 = n) (hC : ClsOk ci C T N) (hty : ∀ k, k < N → parseFieldDescriptor (T k).2.2.1 = some (ty0 k)) (hw : Cond.classLink own ix C ∈ lw_g) (hw2 : Cond.instantiable C N ∈ lw_g) (hw3 : Cond.initialized C ∈ lw_g) (hfs : ∀ j, j < N → defaultValue (ty0 j) = vp_V fs j) (h1 : ce + 1 ≤ mc) (h2 : sl + N ≤ ms)
    (kk : ∀ q : Nat, BW K n lv nL (.ref q :: st) (ws ++ [(q, .inr (ci, fs))]) tys (ce + 1) (sl + N)) : BW K pc lv nL st ws tys ce sl := by
  subst hn
  intro H locs Ls hP hD hK hS hl
  have hts := hO.1.2.2.2.2
  have hR := hO.2.1.2.1
  exact va_new hO.1.1 hO.1.2.1 hts hC.2 ty0 hty hO.1.2.2.2.1 (hts _ hw) (hts _ hw2) (hts _ hw3) hK hP hD hS hO.2.1.1 hC.1 hfs (by rw [hR]; exact h1) (by rw [hR]; exact h2) hd (fun q H1 hP1 hD1 hS1 => kk q H1 locs Ls hP1 hD1 hK hS1 hl)
/-- what a constructor finds that is called -/
theorem bw_pre {H : Heap} {locs : List Loc} {h0 ci : Nat} {fs0 As : List Value} (hO : NOk K cc own nL d mc ms) (hS : va_S K.A K.s.heap H locs) (hK : va_K K.D vwCl tys K.s) (hP : va_P K.D vwCl [(h0, .inr (ci, fs0))] H) (hA : K.A h0) : PreS K.s H (va_Pc (.ref h0 :: As) (fun U => U.heap.size = H.size ∧ va_P K.D vwCl [(h0, .inr (ci, fs0))] U.heap ∧ va_K K.D vwCl [] U ∧ (K.b ≤ h0 ∧ K.b ≤ H.size) ∧ XE K.q (fun a => K.b ≤ a) U ∧ NW U)) (.ref h0 :: As) := by
  refine ⟨fun a U g mk h => ?_, fun U hU hW => ?_⟩
  · obtain ⟨h1, h2, h3, h4, h5, h6, h7⟩ := h
    exact ⟨h1, h2, h3, va_K.moved (u := U) (U := U.calling g mk a) (Vm.Alike.refl U.vm) h4, h5, h6.mv (U := U.calling g mk a) (Or.inl rfl) (fun _ _ _ => rfl), NW.same (u := U) (U := U.calling g mk a) rfl h7⟩
  · refine ⟨rfl, by rw [hU], by rw [hU]; exact hP, va_K.moved hW.alike (hK.sub [] rfl), ⟨hO.2.2.2.2.2 _ hA, Nat.le_trans hO.2.2.2.2.1 hS.1⟩, ?_, NW.warm hW hO.2.2.1⟩
    refine hO.2.2.2.1.mv (Or.inr hW) (fun a h1 h2 => ?_)
    rw [hU]
    exact hS.2.1 a h1 (fun z => h2 (hO.2.2.2.2.2 a z))
/-- behind a constructor: what came is joined to what there was -/
theorem bw_back {H : Heap} {locs : List Loc} {Ls : Array Slot} {g : List Value} {w1 : va_W} {h0 ci mc' ms' : Nat} {fs0 : List Value} {a0 : Array Value} {RS : va_W → TyL → Prop} (hO : NOk K cc own nL d mc ms) (hS : va_S K.A K.s.heap H locs) (hP : va_P K.D vwCl (w1 ++ [(h0, .inr (ci, fs0))]) H) (hD : va_D K.A (w1 ++ [(h0, .inr (ci, fs0))])) (hK : va_K K.D vwCl tys K.s) (hl : lv_has Ls nL lv)
    (hr : va_Run K.p K.l K.e K.R K.s K.m K.args K.below K.meth K.c H locs ce sl mc' ms' (F0 K.m pc Ls g) st (NQ K.D (va_A [(h0, .inr (ci, fs0))] H.size) RS a0) (va_A [(h0, .inr (ci, fs0))] H.size))
    (kk : ∀ (w : va_W) (ty : TyL), RS w ty → BW K (pc + 3) lv nL st (w1 ++ w) (tys ++ ty) (ce + mc') (sl + ms')) : W K.p K.l K.e K.R K.s K.m K.args K.below K.meth K.c H locs ce sl (MQ K.below (NQ K.D K.A K.RS) K.args K.s K.R.cells K.R.slots K.A) (F0 K.m pc Ls g) := by
  have hA0 : K.A h0 := hD.2 w1.length (h0, .inr (ci, fs0)) (by simp)
  have hA : ∀ a, va_A [(h0, (Sum.inr (ci, fs0) : va_E))] H.size a → K.A a := fun a h => by
    rcases va_A1.mp h with rfl | h
    · exact hA0
    · exact hO.2.1.1 a (Nat.le_trans hS.1 h)
  have g1 : ∀ (k : Nat) (x : Nat × va_E), w1[k]? = some x → (w1 ++ [(h0, (Sum.inr (ci, fs0) : va_E))])[k]? = some x := fun k x hx => by rw [List.getElem?_append_left (List.getElem?_eq_some_iff.mp hx).1]; exact hx
  have hP1 : va_P K.D vwCl w1 H := fun k x hx => hP k x (g1 k x hx)
  have hne : ∀ (k : Nat) (x : Nat × va_E), w1[k]? = some x → x.1 ≠ h0 := fun k x hx e => by
    have := hD.1 k w1.length x (h0, .inr (ci, fs0)) (g1 k x hx) (by simp) e
    have := (List.getElem?_eq_some_iff.mp hx).1
    omega
  intro T hT X
  obtain ⟨v, st₀, t, T', L, e0, X', hL, e1, e2, ⟨⟨hv, w, ty, hrs, hPw, hKw, hDw⟩, hz, hk⟩, stp⟩ := hr T hT X
  cases hv
  rw [e0] at hz hk
  have hk1 : ∀ (k : Nat) (x : Nat × va_E), w1[k]? = some x → T'.heap[x.1]? = H[x.1]? := fun k x hx => by
    have hlt := (hP1 k x hx).lt
    rw [e1]
    refine hk x.1 hlt (fun z => ?_)
    rcases va_A1.mp z with h | h
    · exact hne k x hx h
    · omega
  have hS' : va_S K.A K.s.heap T'.heap (locs ++ L) := ⟨Nat.le_trans hS.1 (by rw [e1]; exact hz), fun q h1 h2 => by rw [e1, hk q (Nat.lt_of_lt_of_le h1 hS.1) (fun z => h2 (hA q z))]; exact hS.2.1 q h1 h2, fun q hq => by
    rcases List.mem_append.mp hq with h | h
    · exact hS.2.2 q h
    · exact hA _ (hL q h)⟩
  have hP' : va_P K.D vwCl (w1 ++ w) T'.heap := (hP1.kept hk1).app (by rw [e1]; exact hPw)
  have hD1 : va_D K.A w1 := hD.by (fun k => k) g1 (fun i j _ _ h => h)
  have hD' : va_D K.A (w1 ++ w) := hD1.app ⟨hDw.1, fun k x hx => hA _ (hDw.2 k x hx)⟩ (fun i j x y hx hy e => by
    rcases va_A1.mp (hDw.2 j y hy) with h | h
    · exact hne i x hx (e.trans h)
    · have := (hP1 i x hx).lt
      omega)
  have hK' : va_K K.D vwCl (tys ++ ty) K.s := hK.app (va_K.moved (by rw [← e2]; exact X'.warmed.alike.symm) hKw)
  obtain ⟨t2, a1, b1⟩ := kk w ty hrs T'.heap (locs ++ L) Ls hP' hD' hK' hS' hl T' rfl X'
  exact ⟨t2, stp t2 a1, b1⟩
theorem rmn_in {d d' maxL mc ms mc' ms' : Nat} (h : d' + 1 ≤ d) (hm : maxL ≤ 41) : (rmn d' mc' ms').frames + 1 ≤ (rmn d mc ms).frames ∧ 8 + (maxL + 11) + (rmn d' mc' ms').locals ≤ (rmn d mc ms).locals := by
  show d' + 1 ≤ d ∧ 8 + (maxL + 11) + 60 * d' ≤ 60 * d
  omega
/-- a constructor is called: 'rs' is what came back -/
theorem bw_call {ix d' mc' ms' maxL ci h0 na : Nat} {y : MethodName} {bytes : ByteArray} {fs0 As : List Value} {w1 : va_W} {RS : (Nat → Nat) → Nat → va_W → TyL → Prop} (hO : NOk K cc own nL d mc ms) (hd : decode cc pc = .ok (.invokespecial ix, 3)) (hn : pc + 3 = n) (hw : Cond.methodLink own ix y ∈ lw_g) (hy : CkB y bytes maxL none na) (hyn : y.name = "<init>") (hyi : Cond.instanceMethod y ∈ lw_g) (hC : CtN d' mc' ms' y bytes maxL ci fs0 As RS) (hdd : d' + 1 ≤ d) (hna : As.length = na) (hst : (st.map fun v => v.category).sum ≤ 8) (h1 : ce + mc' ≤ mc) (h2 : sl + ms' ≤ ms)
    (kk : ∀ (w : va_W) (ty : TyL), RS K.q h0 w ty → BW K n lv nL st (w1 ++ w) (tys ++ ty) (ce + mc') (sl + ms')) : BW K pc lv nL (As.reverse ++ .ref h0 :: st) (w1 ++ [(h0, .inr (ci, fs0))]) tys ce sl := by
  subst hn
  intro H locs Ls hP hD hK hS hl
  have hts := hO.1.2.2.2.2
  have hR := hO.2.1.2.1
  have hA0 : K.A h0 := hD.2 w1.length (h0, .inr (ci, fs0)) (by simp)
  have hPc : va_P K.D vwCl [(h0, .inr (ci, fs0))] H := fun k x hx => by
    have hz : k < 1 := (List.getElem?_eq_some_iff.mp hx).1
    rw [show k = 0 by omega] at hx
    cases hx
    exact hP w1.length _ (by simp)
  have cw : CallB K.R K.s K.args own ix y bytes maxL none (.code y bytes maxL none :: lw_g) (rmn d' mc' ms') mc' ms' na ∧ y.name = "<init>" ∧ (Cond.instanceMethod y).before K.args K.s = true := ⟨callB_of na hts (lw_goodc hy.1) rfl rfl rfl (hts _ hy.2.1) (hts _ hw) hy.2.2.1 (by rw [hR]; exact rmn_in hdd hy.2.2.2), hyn, hts _ hyi⟩
  exact bw_back hO hS hP hD hK hl (va_runI (As := As) (rest := st) ⟨hO.1.1, hO.1.2.1, hO.1.2.2.1, hO.1.2.2.2.1, hts⟩ (hC K.l K.D K.q H.size K.b h0) cw (bw_pre hO hS hK hPc hA0) rfl hna hl.1 rfl (by show 2 * 0 + _ ≤ 8; omega) hd ⟨by rw [hR]; exact h1, by rw [hR]; exact h2⟩) kk
theorem bw_callN {ix d' mc' ms' maxL ci h0 na : Nat} {y : MethodName} {host : String} {bytes : ByteArray} {fs0 As : List Value} {w1 : va_W} {RS : (Nat → Nat) → Nat → va_W → TyL → Prop} (hO : NOk K cc own nL d mc ms) (hd : decode cc pc = .ok (.invokespecial ix, 3)) (hn : pc + 3 = n) (hw : Cond.methodLinkNest own ix y host ∈ lw_n) (hy : CkB y bytes maxL none na) (hyn : y.name = "<init>") (hyi : Cond.instanceMethod y ∈ lw_g) (hC : CtN d' mc' ms' y bytes maxL ci fs0 As RS) (hdd : d' + 1 ≤ d) (hna : As.length = na) (hst : (st.map fun v => v.category).sum ≤ 8) (h1 : ce + mc' ≤ mc) (h2 : sl + ms' ≤ ms)
    (kk : ∀ (w : va_W) (ty : TyL), RS K.q h0 w ty → BW K n lv nL st (w1 ++ w) (tys ++ ty) (ce + mc') (sl + ms')) : BW K pc lv nL (As.reverse ++ .ref h0 :: st) (w1 ++ [(h0, .inr (ci, fs0))]) tys ce sl := by
  subst hn
  intro H locs Ls hP hD hK hS hl
  have hts := hO.1.2.2.2.2
  have hR := hO.2.1.2.1
  have hA0 : K.A h0 := hD.2 w1.length (h0, .inr (ci, fs0)) (by simp)
  have hPc : va_P K.D vwCl [(h0, .inr (ci, fs0))] H := fun k x hx => by
    have hz : k < 1 := (List.getElem?_eq_some_iff.mp hx).1
    rw [show k = 0 by omega] at hx
    cases hx
    exact hP w1.length _ (by simp)
  have cw : va_CN K.R K.s K.args own ix y host bytes maxL none (.code y bytes maxL none :: lw_g) (rmn d' mc' ms') mc' ms' na ∧ y.name = "<init>" ∧ (Cond.instanceMethod y).before K.args K.s = true := ⟨va_cnB na hts (lw_goodc hy.1) rfl rfl rfl (hO.2.2.1 _ hw) (hts _ hy.2.1) hy.2.2.1 (by rw [hR]; exact rmn_in hdd hy.2.2.2), hyn, hts _ hyi⟩
  exact bw_back hO hS hP hD hK hl (va_runIN (As := As) (rest := st) ⟨hO.1.1, hO.1.2.1, hO.1.2.2.1, hO.1.2.2.2.1, hts⟩ (hC K.l K.D K.q H.size K.b h0) cw (bw_pre hO hS hK hPc hA0) rfl hna hl.1 rfl (by show 2 * 0 + _ ≤ 8; omega) hd ⟨by rw [hR]; exact h1, by rw [hR]; exact h2⟩) kk
end
theorem arrV_cg {cA : ClassId} {N : Nat} {f g : Nat → Value} (h : ∀ j, j < N → f j = g j) : arrV cA N f = arrV cA N g := by
  unfold arrV
  congr 1
  apply Array.ext
  · simp
  · intro i h1 h2
    simp at h1
    simp [h i h1]
section
variable {K : NT} {cc : ByteArray} {own : String} {nL d mc ms pc n : Nat} {lv : List (Nat × Value)} {st : List Value} {ws : va_W} {tys : TyL} {ce sl : Nat}
/-- the rows of the acts -/
def rowsW (q : Nat) (cA cB : ClassId) (N M : Nat) : va_W := (q, .inl (cA, N, .inr (.inr (.inr (.inr (fun i => some (q + 1 + i))))))) :: (List.range N).map (fun i => (q + 1 + i, .inl (cB, M, .inl (fun _ => iI 0))))
theorem bw_rows {ix N M : Nat} {v u : Int32} (hO : NOk K cc own nL d mc ms) (hd : decode cc pc = .ok (.multianewarray ix 2, 4)) (hn : pc + 4 = n) (hw : Cond.classLink own ix "[[I" ∈ lw_g) (hv : v = iI (N : Int)) (hu : u = iI (M : Int)) (hN : N ≤ 10000) (hM : M ≤ 10000) (h1 : ce + (1 + N) ≤ mc) (h2 : sl + (N + N * M) ≤ ms)
    (kk : ∀ (q : Nat) (cA cB : ClassId), BW K n lv nL (.ref q :: st) (ws ++ rowsW q cA cB N M) (tys ++ [(cA, .array .int), (cB, .int)]) (ce + 1 + N) (sl + N + N * M)) : BW K pc lv nL (.int u :: .int v :: st) ws tys ce sl := by
  subst hn
  subst hv
  subst hu
  intro H locs Ls hP hD hK hS hl
  have hts := hO.1.2.2.2.2
  have hR := hO.2.1.2.1
  have z : ∀ x : Nat, x ≤ 10000 → ¬ iI (x : Int) < 0 := fun x hx e => by
    have := (iI_lt (a := (x : Int)) (b := 0) ⟨by omega, by omega⟩ (inRlit _)).mp e
    omega
  have c0 : ∀ x : Nat, x ≤ 10000 → (iI (x : Int)).toNatClampNeg = x := fun x hx => by rw [iI_nc (by omega) (by omega)]; rfl
  refine W.rows hO.1.1 hO.1.2.1 hO.1.2.2.2.1 (hts _ hw) hO.2.2.2.1.2.2.2 hd (z N hN) (z M hM) (c0 N hN) (c0 M hM) (by omega) (by omega) (by rw [hR]; exact h1) (by rw [hR]; exact h2) (fun cA cB cc0 kA kB H1 locs1 q1 q2 q3 q4 q5 q6 z1 o1 k1 r1 l1 => ?_)
  have hk : ∀ (k : Nat) (x : Nat × va_E), ws[k]? = some x → H1[x.1]? = H[x.1]? := fun k x hx => k1 x.1 ((hP k x hx).lt)
  have hnew : ∀ (k : Nat) (x : Nat × va_E), (rowsW H.size cA cB N M)[k]? = some x → x.1 = H.size + k ∧ va_at K.D vwCl x H1 := by
    intro k x hx
    match k, hx with
    | 0, hx =>
      cases hx
      refine ⟨rfl, ?_⟩
      show H1[H.size]? = some (vp_cell _ _)
      rw [o1]
      unfold mkO
      rw [vp_cell_q]
      exact congrArg some (arrV_cg (fun j hj => by rw [if_pos hj]; rfl))
    | k + 1, hx =>
      have hx' : ((List.range N).map (fun i => (H.size + 1 + i, (Sum.inl (cB, M, .inl (fun _ => iI 0)) : va_E))))[k]? = some x := hx
      have hkN : k < N := by
        have := (List.getElem?_eq_some_iff.mp hx').1
        simpa using this
      rw [List.getElem?_map, List.getElem?_range hkN] at hx'
      cases hx'
      refine ⟨by show H.size + 1 + k = H.size + (k + 1); omega, ?_⟩
      show H1[H.size + 1 + k]? = some (vp_cell _ _)
      rw [r1 k hkN]
      rfl
  refine kk H.size cA cB H1 locs1 Ls ((hP.kept hk).app (fun k x hx => (hnew k x hx).2)) (hD.app ⟨fun i j x y hx hy e => ?_, fun k x hx => ?_⟩ (fun i j x y hx hy e => ?_)) (hK.app ⟨hK.1, fun k x hx => ?_⟩) ⟨Nat.le_trans hS.1 (by omega), fun a h1 h2 => (k1 a (Nat.lt_of_lt_of_le h1 hS.1)).trans (hS.2.1 a h1 h2), fun x hx => ?_⟩ hl
  · have := (hnew i x hx).1
    have := (hnew j y hy).1
    omega
  · rw [(hnew k x hx).1]
    exact hO.2.1.1 _ (Nat.le_trans hS.1 (by omega))
  · have := (hnew j y hy).1
    have := (hP i x hx).lt
    omega
  · match k, hx with
    | 0, hx =>
      cases hx
      exact ⟨fun _ _ => ⟨(fun k h => by cases h), kA, q3, cB, q4⟩, q1⟩
    | 1, hx =>
      cases hx
      exact ⟨fun _ _ => ⟨(fun k h => by cases h), kB, q5, cc0, q6⟩, q2⟩
    | k + 2, hx => simp at hx
  · rcases l1 x hx with h | h
    · exact hS.2.2 x h
    · rw [h]
      exact hO.2.1.1 _ hS.1
theorem bw_newq {ix N : Nat} {C : String} {v : Int32} (hO : NOk K cc own nL d mc ms) (hd : decode cc pc = .ok (.anewarray ix, 3)) (hn : pc + 3 = n) (hw : Cond.classLink own ix C ∈ lw_g) (hC : va_AO C K.s) (hv : v = iI (N : Int)) (hN : N ≤ 10000) (h1 : ce + 1 ≤ mc) (h2 : sl + N ≤ ms)
    (kk : ∀ (q : Nat) (cA : ClassId), BW K n lv nL (.ref q :: st) (ws ++ [(q, .inl (cA, N, .inr (.inr (.inr (.inr (fun _ => none))))))]) (tys ++ [(cA, .object C)]) (ce + 1) (sl + N)) : BW K pc lv nL (.int v :: st) ws tys ce sl := by
  subst hn
  subst hv
  intro H locs Ls hP hD hK hS hl
  have hts := hO.1.2.2.2.2
  have hR := hO.2.1.2.1
  have e0 : ¬ iI (N : Int) < 0 := fun e => by
    have := (iI_lt (a := (N : Int)) (b := 0) ⟨by omega, by omega⟩ (inRlit _)).mp e
    omega
  exact va_newq hO.1.1 hO.1.2.1 hO.1.2.2.2.1 (hts _ hw) hC hK hP hD hS hO.2.1.1 e0 (by rw [iI_nc (by omega) (by omega)]; rfl) (by omega) (by rw [hR]; exact h1) (by rw [hR]; exact h2) hd (fun q cA H1 hK1 hP1 hD1 hS1 => kk q cA H1 locs Ls hP1 hD1 hK1 hS1 hl)
theorem bw_astq {q0 t0 qk ci N i a v : Nat} {cA : ClassId} {r : vw_C} {vs : List Value} {f : Nat → Option Nat} {x : Int32} (hO : NOk K cc own nL d mc ms) (hd : decode cc pc = .ok (.aastore, 1)) (hn : pc + 1 = n) (ha : ws[q0]? = some (a, .inl (cA, N, .inr (.inr (.inr (.inr f)))))) (ht : tys[t0]? = some (cA, .object r.1)) (hv : ws[qk]? = some (v, .inr (ci, vs))) (hc : vwCl[ci]? = some r) (hx : x = iI (i : Int)) (hi : i < N) (hN : N ≤ 10000)
    (kk : BW K n lv nL st (ws.set q0 (a, .inl (cA, N, .inr (.inr (.inr (.inr (va_up f i (some v)))))))) tys ce sl) : BW K pc lv nL (.ref v :: .int x :: .ref a :: st) ws tys ce sl := by
  subst hn
  subst hx
  intro H locs Ls hP hD hK hS hl
  refine va_astq hO.1.1 hO.1.2.1 hK hP hD hS q0 t0 qk ci ha ht hv hc (iI_in (by omega) (by omega) (by omega)) hd (fun H1 locs1 hP1 hD1 hS1 => ?_)
  rw [iI_nc (by omega) (by omega), Int.toNat_natCast] at hP1 hD1
  exact kk H1 locs1 Ls hP1 hD1 hK hS1 hl
theorem bw_istore {i : Fin 4} {x : Int32} {lv' : List (Nat × Value)} (hO : NOk K cc own nL d mc ms) (hd : decode cc pc = .ok (.istore_n i, 1)) (hn : pc + 1 = n) (hi : (i : Nat) < nL) (hl' : ((i : Nat), Value.int x) :: lv.filter (fun q => !(q.1 == (i : Nat)) && !(q.1 + 1 == (i : Nat) && q.2.category == 2)) = lv') (kk : BW K n lv' nL st ws tys ce sl) : BW K pc lv nL (.int x :: st) ws tys ce sl := by
  subst hn
  intro H locs Ls hP hD hK hS hl
  exact lv_istore_n hO.1.1 hO.1.2.1 hd rfl hl hi hl' (fun Ls' hl2 => kk H locs Ls' hP hD hK hS hl2)
theorem bw_iload (k : Nat) {i : Fin 4} {x : Int32} (hO : NOk K cc own nL d mc ms) (hd : decode cc pc = .ok (.iload_n i, 1)) (hn : pc + 1 = n) (hv : lv[k]? = some ((i : Nat), .int x)) (kk : BW K n lv nL (.int x :: st) ws tys ce sl) : BW K pc lv nL st ws tys ce sl := by
  subst hn
  intro H locs Ls hP hD hK hS hl
  exact lv_iload_n hO.1.1 hO.1.2.1 hd rfl (lv_at hl k hv) (kk H locs Ls hP hD hK hS hl)
theorem bw_iinc {i k : Nat} {m : Int} {x v : Int32} {lv' : List (Nat × Value)} (hO : NOk K cc own nL d mc ms) (hd : decode cc pc = .ok (.iinc i m, 3)) (hn : pc + 3 = n) (hk : lv[k]? = some (i, .int x)) (hv : x + Int32.ofInt m = v) (hi : i < nL) (hl' : (i, Value.int v) :: lv.filter (fun q => !(q.1 == i) && !(q.1 + 1 == i && q.2.category == 2)) = lv') (kk : BW K n lv' nL st ws tys ce sl) : BW K pc lv nL st ws tys ce sl := by
  subst hn
  intro H locs Ls hP hD hK hS hl
  exact lv_iinc hO.1.1 hO.1.2.1 hd hl hk hv hi hl' (fun Ls' hl2 => kk H locs Ls' hP hD hK hS hl2)
theorem bw_goto {off : Int} {tgt : Nat} (hO : NOk K cc own nL d mc ms) (hd : decode cc pc = .ok (.goto off, 3)) (ht : (pc : Int) + off = (tgt : Int)) (kk : BW K tgt lv nL st ws tys ce sl) : BW K pc lv nL st ws tys ce sl := by
  intro H locs Ls hP hD hK hS hl
  exact lv_goto hO.1.1 hO.1.2.1 hd ht (kk H locs Ls hP hD hK hS hl)
theorem bw_geT {x y : Int32} {off : Int} {tgt : Nat} (hO : NOk K cc own nL d mc ms) (hd : decode cc pc = .ok (.if_icmp .ge off, 3)) (ht : (pc : Int) + off = (tgt : Int)) (hc : y ≤ x) (kk : BW K tgt lv nL st ws tys ce sl) : BW K pc lv nL (.int y :: .int x :: st) ws tys ce sl := by
  intro H locs Ls hP hD hK hS hl
  exact lv_icmp_ge hO.1.1 hO.1.2.1 hd ht (fun _ => kk H locs Ls hP hD hK hS hl) (fun h => absurd hc h)
theorem bw_geF {x y : Int32} {off : Int} {tgt : Nat} (hO : NOk K cc own nL d mc ms) (hd : decode cc pc = .ok (.if_icmp .ge off, 3)) (hn : pc + 3 = n) (ht : (pc : Int) + off = (tgt : Int)) (hc : ¬ y ≤ x) (kk : BW K n lv nL st ws tys ce sl) : BW K pc lv nL (.int y :: .int x :: st) ws tys ce sl := by
  subst hn
  intro H locs Ls hP hD hK hS hl
  exact lv_icmp_ge hO.1.1 hO.1.2.1 hd ht (fun h => absurd h hc) (fun _ => kk H locs Ls hP hD hK hS hl)
/-- the length of the letters' text -/
theorem bw_slen {ix i ixm : Nat} {tx : String} (hO : NOk K cc own nL d mc ms) (hd : decode cc pc = .ok (.ldc ix, 2)) (hd2 : decode cc (pc + 2) = .ok (.invokevirtual ixm, 3)) (hn : pc + 5 = n) (hi : i < 2) (hR0 : vk_R own ix tx (K.q (92 + i)) K.s) (hw : Cond.methodLink own ixm yJ0_length_8abf5 ∈ lw_g) (hdd : 2 ≤ d) (hst : (st.map fun v => v.category).sum ≤ 8) (h1 : ce ≤ mc) (h2 : sl ≤ ms) (kk : BW K n lv nL (.int (iI ((txL i : Nat) : Int)) :: st) ws tys ce sl) : BW K pc lv nL st ws tys ce sl := by
  subst hn
  intro H locs Ls hP hD hK hS hl
  have hts := hO.1.2.2.2.2
  have hR := hO.2.1.2.1
  have hXC : XC K.q (fun a => K.b ≤ a) K.s := hO.2.2.2.1.1
  refine va_ldcS hO.1.1 hO.1.2.1 hO.1.2.2.2.1 hR0 hd ?_
  have hy := kJ0_length_8abf5
  have cw : CallW K.R K.s K.args own RJ0 ixm yJ0_length_8abf5 cJ0_length_8abf5 1 (some .int) (.code yJ0_length_8abf5 cJ0_length_8abf5 1 (some .int) :: lw_g) (rmd 1) 0 0 0 := ⟨callB_of 0 hts (lw_goodc hy.1.1) rfl rfl rfl (hts _ hy.1.2.1) (hts _ hw) hy.1.2.2.1 (by rw [hR]; show 1 + 1 ≤ d ∧ 8 + (1 + 11) + 60 * 1 ≤ 60 * d; omega), hts _ hy.2.1, hts _ hy.2.2⟩
  have hrec : ∃ cell : Cell, H[K.q (92 + i)]? = some cell ∧ cell.vm.isStatics = false ∧ K.s.vm.findClass RJ0 = some cell.cls := by
    obtain ⟨cell, h1, h2, h3, -⟩ := ((hXC.2.2.1 i hi).1.narrow hO.2.2.2.2.2).kept hS.2.1
    exact ⟨cell, h1, h2, h3⟩
  have hpre : ∀ U : State, U.heap = H → K.s.WarmedH U.vm → va_Pc ([vR (92 + i)].map (cv K.q)) (fun U => U.heap.size = H.size ∧ va_P K.D vwCl (wld PZ K.q (fun _ => 0) (fun _ _ => 0, 0, none)) U.heap ∧ va_K K.D vwCl (wty PZ (fun _ => 0)) U ∧ va_D (fun a => K.b ≤ a) (wld PZ K.q (fun _ => 0) (fun _ _ => 0, 0, none)) ∧ PZ.2.2 K.q (fun a => K.b ≤ a) U ∧ K.b ≤ H.size ∧ NW U) (Value.ref (K.q (92 + i)) :: []).toArray U := by
    intro U hU hW
    refine ⟨rfl, by rw [hU], fun k x hx => by simp [wld, PZ] at hx, va_K.moved hW.alike (hK.sub [] rfl), ⟨fun i j x y hx => by simp [wld, PZ] at hx, fun k x hx => by simp [wld, PZ] at hx⟩, ?_, Nat.le_trans hO.2.2.2.2.1 hS.1, NW.warm hW hO.2.2.1⟩
    refine XCo K.q _ K.s U (Or.inr hW) (fun a h1 h2 => ?_) hXC
    rw [hU]
    exact hS.2.1 a h1 (fun z => h2 (hO.2.2.2.2.2 a z))
  have hrun := va_runV (l := K.l) (e := K.e) (R := K.R) (below := K.below) (meth := K.meth) (locs := locs) (cells := ce) (slots := sl) (g := F0 K.m (pc + 2) Ls (.ref (K.q (92 + i)) :: st)) (As := []) (rest := st) (b := K.q (92 + i)) ⟨hO.1.1, hO.1.2.1, hO.1.2.2.1, hO.1.2.2.2.1, hts⟩ (ctC_length_s (fun _ _ => 0, 0, none) hi K.l K.q (fun _ => 0) K.D H.size K.b) cw ⟨ct_blind XSo, hrec, hpre⟩ rfl rfl hl.1 rfl (by show 2 * 0 + _ ≤ 8; omega) hd2 ⟨by rw [hR]; exact h1, by rw [hR]; exact h2⟩
  intro T hT X
  obtain ⟨v, st₀, t, T', L, h0, X', hL, e1, e2, ⟨⟨r, μ', hv, hq, hP'⟩, hz, hk⟩, stp⟩ := hrun T hT X
  obtain ⟨rfl, -⟩ := hq
  cases hv
  rw [h0] at hz hk
  have hA : ∀ a, va_A (wld PZ K.q (fun _ => 0) (fun _ _ => 0, 0, none)) H.size a → H.size ≤ a := fun a h => by
    rcases h with ⟨k, x, hx⟩ | h
    · simp [wld, PZ] at hx
    · exact h
  have hkk : ∀ a, a < H.size → T'.heap[a]? = H[a]? := fun a ha => by
    rw [e1]
    exact hk a ha (fun z => by have := hA a z; omega)
  have hS' : va_S K.A K.s.heap T'.heap (locs ++ L) := ⟨Nat.le_trans hS.1 (by rw [e1]; exact hz), fun q h1 h2 => by rw [hkk q (Nat.lt_of_lt_of_le h1 hS.1)]; exact hS.2.1 q h1 h2, fun q hq => by
    rcases List.mem_append.mp hq with h | h
    · exact hS.2.2 q h
    · exact hO.2.1.1 _ (Nat.le_trans hS.1 (hA _ (hL q h)))⟩
  obtain ⟨t2, a1, b1⟩ := kk T'.heap (locs ++ L) Ls (hP.kept (fun k x hx => hkk _ (hP k x hx).lt)) hD hK hS' hl T' rfl X'
  exact ⟨t2, stp t2 a1, b1⟩
end
