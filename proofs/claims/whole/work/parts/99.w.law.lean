/-! THE CLAIM OUT OF ONE WALK OF THE LAW'S BODY. Your part is whole_start (and what it stands on); all else here is the same for every law, but numbers. -/
def R_law : String := "HangmanMayorLaw"
def lw_P (b : Addr) (xs : List Int32) (args : Array Value) (s : State) : Prop := args = #[.ref b] ∧ s.IntsAt b xs ∧ xs.length ≤ 3072 ∧ (Jvm.Cond.and given_1 narrow_1).before args s = true
def lw_Q (_ : Array Value) (s : State) (o : Outcome) (t : State) : Prop := o = .returned (some (.int 1)) ∧ Framed s o t [] 601024 7293034
def lw_Z (below : List Frame) (a : Array Value) (s : State) : State → Prop := fun t => ∃ o, t.status = .running ∧ Ended t below o ∧ lw_Q a s o t
/-- the law's own end, with 1 on the stack, nothing written that was there before, its room as the claim has it -/
theorem lw_ret {p : Program} {l : Launch} {e : Env} {s : State} {m : MethodId} {below : List Frame} {meth : Method} {c : Code} {b : Nat} (hx : p.tables.exec = Jvm.exec) (hb : c.code = code) (hr : meth.sig.returnType = ret) (hlocks : meth.locks = false) {pc : Nat} {H : Heap} {ls : Array Slot} (hdg : decode code pc = .ok (.ireturn, 1)) : W p l e room_1 s m #[Value.ref b] below meth c H [] 601024 7293034 (lw_Z below #[Value.ref b] s) (F0 m pc ls [.int 1]) := by
  intro T hT X
  obtain ⟨fs, hret, hrun, hended, hW, hframe⟩ := X.leave (v := some (.int 1)) (hlocks := hlocks) (fun h => by rw [hr] at h; cases h)
  have hmeth' : T.vm.method? m = some meth := X.method'
  refine ⟨T.setFrames fs, ?_, .returned (some (.int 1)), hrun, hended, rfl, ⟨_, rfl⟩, hW, hframe⟩
  jvm_step X.here [X.here.top, hx, hb, hdg, hmeth', hr, ret, narrow_b1]
  (try refine ⟨rfl, ?_⟩); (try refine ⟨rfl, ?_⟩)
  first | (intro acts; rw [hret _ acts rfl rfl rfl]) | rw [hret _ _ rfl rfl rfl]
  exact Steps.refl _
/-- what holds at the law's entry: the machine, the code, the tables' words (any of lw_tbl by 'hts w (by decide +kernel)'), the script of L ints xs at the cell b, what the Statement gives of the start (any of its parts by flat_of_before) -/
def lw_At (p : Program) (s : State) (m : MethodId) (meth : Method) (c : Code) (b L : Nat) (xs : Nat → Int32) : Prop :=
  p.tables.exec = Jvm.exec ∧ c.code = code ∧ meth.sig.returnType = ret ∧ c.maxLocals = 7 ∧ s.vm.findClass R_law = some m.cls ∧ (∀ w ∈ lw_tbl, w.before #[Value.ref b] s = true) ∧ va_X b L xs s s.heap ∧ b < s.heap.size ∧ meth.locks = false ∧ (Jvm.Cond.and given_1 narrow_1).before #[Value.ref b] s = true
/-! ## the law: two memories side by side -/
abbrev LT : Type := (Program × Launch × Env × State × MethodId × List Frame × Method × Code) × ((Nat → Nat) × (Nat → ClassId) × (Nat → Nat) × (Nat → ClassId) × va_G × (Nat × ClassId) × (Nat × Nat × (Nat → Int32)))
abbrev LT.p (K : LT) : Program := K.1.1
abbrev LT.l (K : LT) : Launch := K.1.2.1
abbrev LT.e (K : LT) : Env := K.1.2.2.1
abbrev LT.s (K : LT) : State := K.1.2.2.2.1
abbrev LT.m (K : LT) : MethodId := K.1.2.2.2.2.1
abbrev LT.below (K : LT) : List Frame := K.1.2.2.2.2.2.1
abbrev LT.meth (K : LT) : Method := K.1.2.2.2.2.2.2.1
abbrev LT.c (K : LT) : Code := K.1.2.2.2.2.2.2.2
abbrev LT.q (K : LT) : Nat → Nat := K.2.1
abbrev LT.ca (K : LT) : Nat → ClassId := K.2.2.1
abbrev LT.r (K : LT) : Nat → Nat := K.2.2.2.1
abbrev LT.cr (K : LT) : Nat → ClassId := K.2.2.2.2.1
abbrev LT.D (K : LT) : va_G := K.2.2.2.2.2.1
abbrev LT.o (K : LT) : Nat := K.2.2.2.2.2.2.1.1
abbrev LT.co (K : LT) : ClassId := K.2.2.2.2.2.2.1.2
abbrev LT.b (K : LT) : Nat := K.2.2.2.2.2.2.2.1
abbrev LT.L (K : LT) : Nat := K.2.2.2.2.2.2.2.2.1
abbrev LT.xs (K : LT) : Nat → Int32 := K.2.2.2.2.2.2.2.2.2
abbrev LT.A (K : LT) : Nat → Prop := fun a => K.s.heap.size ≤ a
def LWd (K : LT) (μ ν : Mm) (f : Nat → Int64) : va_W := (K.o, loE K.co f) :: (wld PC K.q K.ca μ ++ wld PM K.r K.cr ν)
def LW (K : LT) (pc : Nat) (lv : List (Nat × Value)) (st : List Value) (μ ν : Mm) (f : Nat → Int64) (ce sl : Nat) : Prop := ∀ (H : Heap) (locs : List Loc) (Ls : Array Slot), va_P K.D vwCl (LWd K μ ν f) H → va_S K.A K.s.heap H locs → lv_has Ls 7 lv → W K.p K.l K.e room_1 K.s K.m #[.ref K.b] K.below K.meth K.c H locs ce sl (lw_Z K.below #[.ref K.b] K.s) (F0 K.m pc Ls st)
def LOk (K : LT) : Prop := (lw_At K.p K.s K.m K.meth K.c K.b K.L K.xs ∧ K.L ≤ 3072 ∧ K.l.stackTraces = false) ∧ (va_K K.D vwCl (wty PC K.ca) K.s ∧ va_K K.D vwCl (wty PM K.cr) K.s ∧ va_K K.D vwCl [(K.co, .long)] K.s) ∧ (∀ μ ν f, va_D K.A (LWd K μ ν f)) ∧ XT K.q K.A K.s ∧ NW K.s
/-- a number of the script -/
def xI (K : LT) (j : Nat) : Int := (K.xs j).toInt
theorem xI_R (K : LT) (j : Nat) : InR (xI K j) := InR.of _
theorem xI_i (K : LT) (j : Nat) : iI (xI K j) = K.xs j := iI_toInt _
def LV (K : LT) (i : Nat) : List (Nat × Value) := [(0, .ref K.b), (1, .ref (K.q 0)), (2, .ref (K.r 0)), (3, .ref K.o), (4, .int (iI (i : Int)))]
theorem wld_len {P : LPk} {q : Nat → Nat} {ca : Nat → ClassId} {μ : Mm} : (wld P q ca μ).length = P.2.1 := by simp [wld]
section
variable {K : LT} {μ ν : Mm} {f : Nat → Int64}
theorem lwd_C {k : Nat} (hk : k < 86) : (LWd K μ ν f)[k + 1]? = some (K.q k, cellE layC K.q K.ca μ k) := by
  show (wld PC K.q K.ca μ ++ wld PM K.r K.cr ν)[k]? = _
  rw [List.getElem?_append_left (by rw [wld_len]; exact hk)]
  exact wld_get (P := PC) hk
theorem lwd_M {k : Nat} (hk : k < 25) : (LWd K μ ν f)[k + 87]? = some (K.r k, cellE layM K.r K.cr ν k) := by
  show (wld PC K.q K.ca μ ++ wld PM K.r K.cr ν)[k + 86]? = _
  rw [List.getElem?_append_right (by rw [wld_len]; show 86 ≤ k + 86; omega), wld_len, show k + 86 - PC.2.1 = k from Nat.add_sub_cancel k 86]
  exact wld_get (P := PM) hk
theorem lwd_inv {k : Nat} {x : Nat × va_E} (h : (LWd K μ ν f)[k]? = some x) : (k = 0 ∧ x = (K.o, loE K.co f)) ∨ (∃ j, j < 86 ∧ k = j + 1 ∧ x = (K.q j, cellE layC K.q K.ca μ j)) ∨ ∃ j, j < 25 ∧ k = j + 87 ∧ x = (K.r j, cellE layM K.r K.cr ν j) := by
  match k, h with
  | 0, h => cases h; exact Or.inl ⟨rfl, rfl⟩
  | k + 1, h =>
    by_cases hk : k < 86
    · rw [lwd_C hk] at h
      cases h
      exact Or.inr (Or.inl ⟨k, hk, rfl, rfl⟩)
    · have hlt := (List.getElem?_eq_some_iff.mp h).1
      have hl : (LWd K μ ν f).length = 112 := by
        unfold LWd
        rw [List.length_cons, List.length_append, wld_len, wld_len]
        rfl
      rw [hl] at hlt
      have e : k + 1 = (k - 86) + 87 := by omega
      rw [e, lwd_M (by omega)] at h
      cases h
      exact Or.inr (Or.inr ⟨k - 86, by omega, by omega, rfl⟩)
theorem lwd_PC {H : Heap} (h : va_P K.D vwCl (LWd K μ ν f) H) : va_P K.D vwCl (wld PC K.q K.ca μ) H := fun k x hx => by
  obtain ⟨hk, rfl⟩ := wld_get_inv hx
  exact h (k + 1) _ (lwd_C hk)
theorem lwd_PM {H : Heap} (h : va_P K.D vwCl (LWd K μ ν f) H) : va_P K.D vwCl (wld PM K.r K.cr ν) H := fun k x hx => by
  obtain ⟨hk, rfl⟩ := wld_get_inv hx
  exact h (k + 87) _ (lwd_M hk)
theorem lwd_Po {H : Heap} (h : va_P K.D vwCl (LWd K μ ν f) H) : va_at K.D vwCl (K.o, loE K.co f) H := h 0 _ rfl
theorem lwd_mk {H : Heap} (h0 : va_at K.D vwCl (K.o, loE K.co f) H) (hC : va_P K.D vwCl (wld PC K.q K.ca μ) H) (hM : va_P K.D vwCl (wld PM K.r K.cr ν) H) : va_P K.D vwCl (LWd K μ ν f) H := fun k x hx => by
  rcases lwd_inv hx with ⟨rfl, rfl⟩ | ⟨j, hj, rfl, rfl⟩ | ⟨j, hj, rfl, rfl⟩
  · exact h0
  · exact hC j _ (wld_get (P := PC) hj)
  · exact hM j _ (wld_get (P := PM) hj)
end
section
variable {K : LT} {pc n i : Nat} {lv : List (Nat × Value)} {st : List Value} {μ ν : Mm} {f : Nat → Int64} {ce sl : Nat}
theorem LOk.hx (hO : LOk K) : K.p.tables.exec = Jvm.exec := hO.1.1.1
theorem LOk.hb (hO : LOk K) : K.c.code = code := hO.1.1.2.1
theorem LOk.hts (hO : LOk K) : ∀ w ∈ lw_g, w.before #[Value.ref K.b] K.s = true := fun w hw => hO.1.1.2.2.2.2.2.1 w (List.mem_filter.mp hw).1
theorem LOk.fix (hO : LOk K) : CallFix K.p K.m K.c code 7 K.s #[Value.ref K.b] lw_g R_law := ⟨hO.hx, hO.hb, hO.1.1.2.2.2.1, hO.1.1.2.2.2.2.1, hO.hts⟩
theorem LOk.ne_o (hO : LOk K) {j : Nat} (hj : j < 86) : K.q j ≠ K.o := fun e => by
  have := (hO.2.2.1 mu0 nu0 (fun _ => 0)).1 (j + 1) 0 _ _ (lwd_C hj) rfl e
  omega
theorem LOk.ne_r (hO : LOk K) {j k : Nat} (hj : j < 86) (hk : k < 25) : K.q j ≠ K.r k := fun e => by
  have := (hO.2.2.1 mu0 nu0 (fun _ => 0)).1 (j + 1) (k + 87) _ _ (lwd_C hj) (lwd_M hk) e
  omega
theorem LOk.ne_ro (hO : LOk K) {k : Nat} (hk : k < 25) : K.r k ≠ K.o := fun e => by
  have := (hO.2.2.1 mu0 nu0 (fun _ => 0)).1 (k + 87) 0 _ _ (lwd_M hk) rfl e
  omega
theorem LOk.DC (hO : LOk K) : va_D K.A (wld PC K.q K.ca μ) := (hO.2.2.1 μ nu0 (fun _ => 0)).by (fun k => k + 1) (fun k x hx => by
  obtain ⟨hk, rfl⟩ := wld_get_inv hx
  exact lwd_C hk) (fun i j _ _ e => by omega)
theorem LOk.DM (hO : LOk K) : va_D K.A (wld PM K.r K.cr ν) := (hO.2.2.1 mu0 ν (fun _ => 0)).by (fun k => k + 87) (fun k x hx => by
  obtain ⟨hk, rfl⟩ := wld_get_inv hx
  exact lwd_M hk) (fun i j _ _ e => by omega)
theorem LOk.AC (hO : LOk K) {sz a : Nat} (hs : K.s.heap.size ≤ sz) (h : va_A (wld PC K.q K.ca μ) sz a) : K.A a := by
  rcases h with ⟨k, x, hk⟩ | h
  · exact hO.DC.2 k _ hk
  · exact Nat.le_trans hs h
theorem LOk.AM (hO : LOk K) {sz a : Nat} (hs : K.s.heap.size ≤ sz) (h : va_A (wld PM K.r K.cr ν) sz a) : K.A a := by
  rcases h with ⟨k, x, hk⟩ | h
  · exact hO.DM.2 k _ hk
  · exact Nat.le_trans hs h
theorem lw_wid {ce' sl' : Nat} (h1 : ce ≤ ce') (h2 : sl ≤ sl') (kk : LW K pc lv st μ ν f ce' sl') : LW K pc lv st μ ν f ce sl := fun H locs Ls hP hS hl => W.widen h1 h2 (kk H locs Ls hP hS hl)
theorem lw_lv {lv' : List (Nat × Value)} (ks : List Nat) (h : lv_pick lv ks = lv') (kk : LW K pc lv' st μ ν f ce sl) : LW K pc lv st μ ν f ce sl := fun H locs Ls hP hS hl => kk H locs Ls hP hS (lv_sub hl ks h)
theorem lw_al (k : Nat) {j : Fin 4} {x : Nat} (hO : LOk K) (hd : decode code pc = .ok (.aload_n j, 1)) (hn : pc + 1 = n) (hv : lv[k]? = some ((j : Nat), .ref x)) (kk : LW K n lv (.ref x :: st) μ ν f ce sl) : LW K pc lv st μ ν f ce sl := by
  subst hn
  intro H locs Ls hP hS hl
  exact lv_aload_n hO.hx hO.hb hd rfl (lv_at hl k hv) (kk H locs Ls hP hS hl)
theorem lw_il (k : Nat) {j : Nat} {x : Int32} (hO : LOk K) (hd : decode code pc = .ok (.iload j, 2)) (hn : pc + 2 = n) (hv : lv[k]? = some (j, .int x)) (kk : LW K n lv (.int x :: st) μ ν f ce sl) : LW K pc lv st μ ν f ce sl := by
  subst hn
  intro H locs Ls hP hS hl
  exact lv_iload hO.hx hO.hb hd (lv_at hl k hv) (kk H locs Ls hP hS hl)
theorem lw_ic {m : Int} (hO : LOk K) (hd : decode code pc = .ok (.iconst m, 1)) (hn : pc + 1 = n) (kk : LW K n lv (.int (iI m) :: st) μ ν f ce sl) : LW K pc lv st μ ν f ce sl := by
  subst hn
  intro H locs Ls hP hS hl
  exact lv_iconst hO.hx hO.hb hd rfl (kk H locs Ls hP hS hl)
/-- a number of the script is read -/
theorem lw_ld (j : Nat) {z : Int} (hO : LOk K) (d0 : decode code pc = .ok (.aload_n 0, 1)) (d1 : decode code (pc + 1) = .ok (.iload 4, 2)) (d2 : decode code (pc + 3) = .ok (.iconst z, 1)) (d3 : decode code (pc + 4) = .ok (.iadd, 1)) (d4 : decode code (pc + 5) = .ok (.iaload, 1)) (hz : z = (j : Int)) (hn : pc + 6 = n) (hi : i + j < K.L) (k0 k4 : Nat) (h0 : lv[k0]? = some (0, .ref K.b)) (h4 : lv[k4]? = some (4, .int (iI (i : Int)))) (kk : LW K n lv (.int (iI (xI K (i + j))) :: st) μ ν f ce sl) : LW K pc lv st μ ν f ce sl := by
  subst hn
  subst hz
  intro H locs Ls hP hS hl
  have hLL := hO.1.2.1
  refine lv_aload_n hO.hx hO.hb d0 rfl (lv_at hl k0 h0) ?_
  refine lv_iload hO.hx hO.hb d1 (lv_at hl k4 h4) ?_
  refine lv_iconst (v := iI (j : Int)) hO.hx hO.hb d2 rfl ?_
  refine lv_iadd hO.hx hO.hb d3 ?_
  rw [iI_add]
  refine va_sld hO.hx hO.hb hO.1.1.2.2.2.2.2.2.1 hO.1.1.2.2.2.2.2.2.2.1 (Nat.not_le.mpr hO.1.1.2.2.2.2.2.2.2.1) hS (iI_in (n := K.L) (by omega) (by omega) (by omega)) d4 ?_
  rw [iI_nc (by omega) (by omega), show ((i : Int) + (j : Int)).toNat = i + j by omega, ← xI_i]
  exact kk H locs Ls hP hS hl
/-- both have answered alike -/
theorem lw_eq {x : Int32} {off : Int} {tgt : Nat} (hO : LOk K) (hd : decode code pc = .ok (.if_icmp .eq off, 3)) (ht : (pc : Int) + off = (tgt : Int)) (kk : LW K tgt lv st μ ν f ce sl) : LW K pc lv (.int x :: .int x :: st) μ ν f ce sl := by
  intro H locs Ls hP hS hl
  exact lv_icmp_eq hO.hx hO.hb hd ht (fun _ => kk H locs Ls hP hS hl) (fun h => absurd rfl h)
theorem lw_ceqT {x : Int32} {off : Int} {tgt : Nat} (hO : LOk K) (hd : decode code pc = .ok (.ifCond .eq off, 3)) (ht : (pc : Int) + off = (tgt : Int)) (hc : x = 0) (kk : LW K tgt lv st μ ν f ce sl) : LW K pc lv (.int x :: st) μ ν f ce sl := by
  intro H locs Ls hP hS hl
  exact lv_if_eq hO.hx hO.hb hd ht (fun _ => kk H locs Ls hP hS hl) (fun h => absurd hc h)
theorem lw_ceqF {x : Int32} {off : Int} {tgt : Nat} (hO : LOk K) (hd : decode code pc = .ok (.ifCond .eq off, 3)) (hn : pc + 3 = n) (ht : (pc : Int) + off = (tgt : Int)) (hc : ¬ x = 0) (kk : LW K n lv st μ ν f ce sl) : LW K pc lv (.int x :: st) μ ν f ce sl := by
  subst hn
  intro H locs Ls hP hS hl
  exact lv_if_eq hO.hx hO.hb hd ht (fun h => absurd h hc) (fun _ => kk H locs Ls hP hS hl)
theorem lw_cneT {x : Int32} {off : Int} {tgt : Nat} (hO : LOk K) (hd : decode code pc = .ok (.ifCond .ne off, 3)) (ht : (pc : Int) + off = (tgt : Int)) (hc : ¬ x = 0) (kk : LW K tgt lv st μ ν f ce sl) : LW K pc lv (.int x :: st) μ ν f ce sl := by
  intro H locs Ls hP hS hl
  exact lv_if_ne hO.hx hO.hb hd ht (fun _ => kk H locs Ls hP hS hl) (fun h => absurd h hc)
theorem lw_cneF {x : Int32} {off : Int} {tgt : Nat} (hO : LOk K) (hd : decode code pc = .ok (.ifCond .ne off, 3)) (hn : pc + 3 = n) (ht : (pc : Int) + off = (tgt : Int)) (hc : x = 0) (kk : LW K n lv st μ ν f ce sl) : LW K pc lv (.int x :: st) μ ν f ce sl := by
  subst hn
  intro H locs Ls hP hS hl
  exact lv_if_ne hO.hx hO.hb hd ht (fun h => absurd hc h) (fun _ => kk H locs Ls hP hS hl)
theorem lw_go {off : Int} {tgt : Nat} (hO : LOk K) (hd : decode code pc = .ok (.goto off, 3)) (ht : (pc : Int) + off = (tgt : Int)) (kk : LW K tgt lv st μ ν f ce sl) : LW K pc lv st μ ν f ce sl := by
  intro H locs Ls hP hS hl
  exact lv_goto hO.hx hO.hb hd ht (kk H locs Ls hP hS hl)
theorem lw_st {j : Nat} {x : Int32} {lv' : List (Nat × Value)} (hO : LOk K) (hd : decode code pc = .ok (.istore j, 2)) (hn : pc + 2 = n) (hj : j < 7) (hl' : (j, Value.int x) :: lv.filter (fun q => !(q.1 == j) && !(q.1 + 1 == j && q.2.category == 2)) = lv') (kk : LW K n lv' st μ ν f ce sl) : LW K pc lv (.int x :: st) μ ν f ce sl := by
  subst hn
  intro H locs Ls hP hS hl
  exact lv_istore hO.hx hO.hb hd hl hj hl' (fun Ls' hl2 => kk H locs Ls' hP hS hl2)
/-- the class is called -/
theorem lw_callC {ix na maxL d' N : Nat} {y : MethodName} {bytes : ByteArray} {ret' : Option FieldType} {T0 : u_T} {as : List AV} {Rr : Int → Mm → Prop} (hO : LOk K) (hd : decode code pc = .ok (.invokevirtual ix, 3)) (hn : pc + 3 = n) (hw : Cond.methodLink R_law ix y ∈ lw_g) (hy : CkV y bytes maxL ret' na) (hcl : vwCl[11]? = some (y.cls, T0, N)) (hC : CtE PC d' y bytes maxL ret' (vR 0 :: as) μ Rr) (hna : as.length = na) (hst : (st.map fun v => v.category).sum ≤ 8) (hd' : d' ≤ 100) (hce : ce ≤ 600000) (hsl : sl ≤ 7000000)
    (kk : ∀ v μ', Rr v μ' → LW K n lv (.int (iI v) :: st) μ' ν f ce sl) : LW K pc lv ((as.map (cv K.q)).reverse ++ .ref (K.q 0) :: st) μ ν f ce sl := by
  subst hn
  intro H locs Ls hP hS hl
  have hb0 := hS.1
  refine w_callV (q := K.q) (b := K.s.heap.size) hO.fix XCo hC hd hw hy hcl (by decide) rfl hna hl.1 hst ⟨by show d' + 1 ≤ 2048; omega, by show 8 + (maxL + 11) + 60 * d' ≤ 84000; have := hy.1.2.2.2; omega⟩ (Nat.le_trans hce (by decide)) (Nat.le_trans hsl (by decide)) (lwd_PC hP) hO.2.1.1 hO.DC (fun U hU hW => XCo K.q _ K.s U (Or.inr hW) (fun a h1 h2 => by rw [hU]; exact hS.2.1 a h1 h2) hO.2.2.2.1.1) hb0 hO.2.2.2.2 (fun r μ' H1 L hq hP1 hz1 hk1 hL1 => ?_)
  obtain ⟨v, rfl, hR⟩ := hq
  have hkeep : ∀ a, a < H.size → (∀ j, j < 86 → K.q j ≠ a) → H1[a]? = H[a]? := fun a ha hne => hk1 a ha (fun z => by
    rcases z with ⟨k, x, hk⟩ | z
    · obtain ⟨hk2, e⟩ := wld_get_inv hk
      exact hne k hk2 (congrArg Prod.fst e).symm
    · omega)
  refine kk v μ' hR H1 (locs ++ L) Ls (lwd_mk ?_ hP1 ((lwd_PM hP).kept (fun k x hx => ?_))) ⟨Nat.le_trans hS.1 hz1, fun a h1 h2 => ?_, fun x hx => ?_⟩ hl
  · exact (lwd_Po hP).kept (hkeep K.o (lwd_Po hP).lt (fun j hj => hO.ne_o hj))
  · obtain ⟨hk, rfl⟩ := wld_get_inv hx
    exact hkeep _ ((lwd_PM hP) k _ hx).lt (fun j hj => hO.ne_r hj hk)
  · rw [hk1 a (Nat.lt_of_lt_of_le h1 hS.1) (fun z => h2 (hO.AC hS.1 z))]
    exact hS.2.1 a h1 h2
  · rcases List.mem_append.mp hx with h | h
    · exact hS.2.2 x h
    · exact hO.AC hS.1 (hL1 x h)
/-- the reference is called -/
theorem lw_callM {ix na maxL d' N : Nat} {y : MethodName} {bytes : ByteArray} {ret' : Option FieldType} {T0 : u_T} {as : List AV} {Rr : Int → Mm → Prop} (hO : LOk K) (hd : decode code pc = .ok (.invokevirtual ix, 3)) (hn : pc + 3 = n) (hw : Cond.methodLink R_law ix y ∈ lw_g) (hy : CkV y bytes maxL ret' na) (hcl : vwCl[12]? = some (y.cls, T0, N)) (hC : CtE PM d' y bytes maxL ret' (vR 0 :: as) ν Rr) (hna : as.length = na) (hst : (st.map fun v => v.category).sum ≤ 8) (hd' : d' ≤ 100) (hce : ce ≤ 600000) (hsl : sl ≤ 7000000)
    (kk : ∀ v ν', Rr v ν' → LW K n lv (.int (iI v) :: st) μ ν' f ce sl) : LW K pc lv ((as.map (cv K.r)).reverse ++ .ref (K.r 0) :: st) μ ν f ce sl := by
  subst hn
  intro H locs Ls hP hS hl
  have hb0 := hS.1
  refine w_callV (q := K.r) (b := K.s.heap.size) hO.fix XM hC hd hw hy hcl (by decide) rfl hna hl.1 hst ⟨by show d' + 1 ≤ 2048; omega, by show 8 + (maxL + 11) + 60 * d' ≤ 84000; have := hy.1.2.2.2; omega⟩ (Nat.le_trans hce (by decide)) (Nat.le_trans hsl (by decide)) (lwd_PM hP) hO.2.1.2.1 hO.DM (fun U hU hW => trivial) hb0 hO.2.2.2.2 (fun r ν' H1 L hq hP1 hz1 hk1 hL1 => ?_)
  obtain ⟨v, rfl, hR⟩ := hq
  have hkeep : ∀ a, a < H.size → (∀ j, j < 25 → K.r j ≠ a) → H1[a]? = H[a]? := fun a ha hne => hk1 a ha (fun z => by
    rcases z with ⟨k, x, hk⟩ | z
    · obtain ⟨hk2, e⟩ := wld_get_inv hk
      exact hne k hk2 (congrArg Prod.fst e).symm
    · omega)
  refine kk v ν' hR H1 (locs ++ L) Ls (lwd_mk ?_ ((lwd_PC hP).kept (fun k x hx => ?_)) hP1) ⟨Nat.le_trans hS.1 hz1, fun a h1 h2 => ?_, fun x hx => ?_⟩ hl
  · exact (lwd_Po hP).kept (hkeep K.o (lwd_Po hP).lt (fun j hj => hO.ne_ro hj))
  · obtain ⟨hk, rfl⟩ := wld_get_inv hx
    exact hkeep _ ((lwd_PC hP) k _ hx).lt (fun j hj => (hO.ne_r hk hj).symm)
  · rw [hk1 a (Nat.lt_of_lt_of_le h1 hS.1) (fun z => h2 (hO.AM hS.1 z))]
    exact hS.2.1 a h1 h2
  · rcases List.mem_append.mp hx with h | h
    · exact hS.2.2 x h
    · exact hO.AM hS.1 (hL1 x h)
theorem met_weak {l : Launch} {y : MethodName} {ws : List Cond} {rm : Room} {Pc : Array Value → State → Prop} {Qc Qc' : Array Value → State → Outcome → State → Prop} {mc ms : Nat} {free : Addr → Prop} (h : Met l y ws rm Pc Qc mc ms free) (hw : ∀ a st o t, Qc a st o t → Qc' a st o t) : Met l y ws rm Pc Qc' mc ms free := by
  intro p e ha hc hk s m args below hf happ hP hT
  obtain ⟨k, o, h1, h2, h3, hQ⟩ := h p e ha hc hk s m args below hf happ hP hT
  exact ⟨k, o, h1, h2, h3, hw _ _ _ _ hQ.1, hQ.2⟩
theorem ctI_E {P : LPk} {d : Nat} {y : MethodName} {cc : ByteArray} {maxL : Nat} {ret : Option FieldType} {as : List AV} {μ : Mm} {v : Int} (h : CtI P d y cc maxL ret as μ v) : CtE P d y cc maxL ret as μ (fun r m => r = v ∧ m = μ) := by
  intro l q ca D sz b
  refine met_weak (h l q ca D sz b) (fun a st oc t hq => ?_)
  obtain ⟨⟨r, m, h1, ⟨h2, h3⟩, h4⟩, h5⟩ := hq
  exact ⟨⟨r, m, h1, ⟨v, h2, rfl, h3⟩, h4⟩, h5⟩
theorem Rel.sz {μ ν : Mm} (h : Rel μ ν) : 0 ≤ ν.1 0 2 ∧ ν.1 0 2 ≤ 240 := by
  obtain ⟨N, hN, -, e, -⟩ := h.P
  omega
theorem Rel.lw {μ ν : Mm} (h : Rel μ ν) : 0 ≤ ν.1 0 13 ∧ ν.1 0 13 ≤ 4 := by
  obtain ⟨c, hc, -, e, -⟩ := h.L
  omega
theorem Rel.im {μ ν : Mm} (h : Rel μ ν) : 0 ≤ ν.1 0 45 ∧ ν.1 0 45 ≤ 1 := by
  rcases h.I.2 with e | ⟨e, -⟩ <;> omega
end
