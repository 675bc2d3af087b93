/-! ## numbers: an int of the machine as an integer -/
def iI (a : Int) : Int32 := Int32.ofInt a
abbrev InR (a : Int) : Prop := -2147483648 ≤ a ∧ a ≤ 2147483647
theorem iI_add (a b : Int) : iI a + iI b = iI (a + b) := (Int32.ofInt_add a b).symm
theorem iI_sub (a b : Int) : iI a - iI b = iI (a - b) := (Int32.ofInt_sub a b).symm
theorem iI_mul (a b : Int) : iI a * iI b = iI (a * b) := (Int32.ofInt_mul a b).symm
theorem iI_neg (a : Int) : -(iI a) = iI (-a) := (Int32.ofInt_neg a).symm
theorem iI_toInt (x : Int32) : iI x.toInt = x := Int32.ofInt_toInt x
theorem toInt_iI {a : Int} (h : InR a) : (iI a).toInt = a := Int32.toInt_ofInt_of_le h.1 (by have := h.2; omega)
theorem InR.of (x : Int32) : InR x.toInt := ⟨Int32.le_toInt x, by have := Int32.toInt_lt x; omega⟩
theorem iI_lt {a b : Int} (ha : InR a) (hb : InR b) : iI a < iI b ↔ a < b := by rw [Int32.lt_iff_toInt_lt, toInt_iI ha, toInt_iI hb]
theorem iI_le {a b : Int} (ha : InR a) (hb : InR b) : iI a ≤ iI b ↔ a ≤ b := by rw [Int32.le_iff_toInt_le, toInt_iI ha, toInt_iI hb]
theorem iI_eq {a b : Int} (ha : InR a) (hb : InR b) : iI a = iI b ↔ a = b := by rw [← Int32.toInt_inj, toInt_iI ha, toInt_iI hb]
theorem iI_0 : iI 0 = 0 := rfl
theorem iI_nc {a : Int} (h : 0 ≤ a) (h2 : a ≤ 2147483647) : (iI a).toNatClampNeg = a.toNat := by
  have := toInt_iI (a := a) ⟨by omega, h2⟩
  unfold Int32.toNatClampNeg
  rw [this]
theorem iI_in {a : Int} {n : Nat} (h : 0 ≤ a) (h1 : a < (n : Int)) (h2 : n < 2147483648) : vp_in (iI a) n := vp_in_iff.mpr (by rw [toInt_iI ⟨by omega, by omega⟩]; exact ⟨h, h1⟩)
/-! ## values and memory -/
/-- a long of the machine as an integer -/
def lI (a : Int) : Int64 := Int64.ofInt a
abbrev InL (a : Int) : Prop := -9223372036854775808 ≤ a ∧ a ≤ 9223372036854775807
abbrev AV : Type := Int ⊕ (Int ⊕ Option Nat)
abbrev vI (a : Int) : AV := .inl a
abbrev vL (x : Int) : AV := .inr (.inl x)
abbrev vR (k : Nat) : AV := .inr (.inr (some k))
abbrev vN : AV := .inr (.inr none)
def cv (q : Nat → Nat) (v : AV) : Value := match v with
  | .inl a => .int (iI a)
  | .inr (.inl x) => .long (lI x)
  | .inr (.inr (some k)) => .ref (q k)
  | .inr (.inr none) => .null
theorem cv_I (q : Nat → Nat) (a : Int) : cv q (vI a) = .int (iI a) := rfl
theorem cv_L (q : Nat → Nat) (x : Int) : cv q (vL x) = .long (lI x) := rfl
theorem cv_R (q : Nat → Nat) (k : Nat) : cv q (vR k) = .ref (q k) := rfl
theorem cv_N (q : Nat → Nat) : cv q vN = .null := rfl
abbrev Mm : Type := (Nat → Nat → Int) × (Int × Option Nat)
/-- a number written at place i of cell k -/
def mst (μ : Mm) (k i : Nat) (v : Int) : Mm := (fun k' i' => if k' = k ∧ i' = i then v else μ.1 k' i', μ.2)
/-- a cell's contents written -/
def mrow (μ : Mm) (k : Nat) (f : Nat → Int) : Mm := (fun k' => if k' = k then f else μ.1 k', μ.2)
def mlong (μ : Mm) (x : Int) : Mm := (μ.1, (x, μ.2.2))
def mrul (μ : Mm) (r : Option Nat) : Mm := (μ.1, (μ.2.1, r))
/-- what a cell is: a row of whole numbers; a row of cells; an object with its fields (0 a number, 1 the long, 2 the law that holds, t + 3 the cell t) -/
abbrev LC : Type := (FieldType × Nat) ⊕ ((FieldType × Nat × (Nat → Nat)) ⊕ (Nat × List Nat))
abbrev LPk : Type := (Nat → LC) × Nat × ((Nat → Nat) → (Nat → Prop) → State → Prop)
def fv (q : Nat → Nat) (μ : Mm) (k j : Nat) (c : Nat) : Value := match c with
  | 0 => .int (iI (μ.1 k j))
  | 1 => .long (lI μ.2.1)
  | 2 => va_rf (μ.2.2.map q)
  | t + 3 => .ref (q t)
def cellE (L : Nat → LC) (q : Nat → Nat) (ca : Nat → ClassId) (μ : Mm) (k : Nat) : va_E := match L k with
  | .inl (_, n) => .inl (ca k, n, .inl (fun i => iI (μ.1 k i)))
  | .inr (.inl (_, n, t)) => .inl (ca k, n, .inr (.inr (.inr (.inr (fun i => some (q (t i)))))))
  | .inr (.inr (ci, fs)) => .inr (ci, (List.range fs.length).map (fun j => fv q μ k j (fs.getD j 0)))
def eT (c : LC) : FieldType := match c with
  | .inl (ty, _) => ty
  | .inr (.inl (ty, _, _)) => ty
  | .inr (.inr _) => .int
def wld (P : LPk) (q : Nat → Nat) (ca : Nat → ClassId) (μ : Mm) : va_W := (List.range P.2.1).map (fun k => (q k, cellE P.1 q ca μ k))
def wty (P : LPk) (ca : Nat → ClassId) : List (ClassId × FieldType) := (List.range P.2.1).map (fun k => (ca k, eT (P.1 k)))
theorem wld_get {P : LPk} {q : Nat → Nat} {ca : Nat → ClassId} {μ : Mm} {k : Nat} (h : k < P.2.1) : (wld P q ca μ)[k]? = some (q k, cellE P.1 q ca μ k) := by
  simp [wld, List.getElem?_map, List.getElem?_range h]
theorem wty_get {P : LPk} {ca : Nat → ClassId} {k : Nat} (h : k < P.2.1) : (wty P ca)[k]? = some (ca k, eT (P.1 k)) := by
  simp [wty, List.getElem?_map, List.getElem?_range h]
theorem wld_get_inv {P : LPk} {q : Nat → Nat} {ca : Nat → ClassId} {μ : Mm} {k : Nat} {x : Nat × va_E} (h : (wld P q ca μ)[k]? = some x) : k < P.2.1 ∧ x = (q k, cellE P.1 q ca μ k) := by
  have hk : k < P.2.1 := by
    have := (List.getElem?_eq_some_iff.mp h).1
    simpa [wld] using this
  rw [wld_get hk] at h
  exact ⟨hk, (Option.some.inj h).symm⟩
theorem wld_D {P : LPk} {q : Nat → Nat} {ca : Nat → ClassId} {μ : Mm} (μ' : Mm) {A : Nat → Prop} (h : va_D A (wld P q ca μ)) : va_D A (wld P q ca μ') := by
  refine ⟨fun i j x y hi hj e => ?_, fun k x hk => ?_⟩
  · obtain ⟨hi1, rfl⟩ := wld_get_inv hi
    obtain ⟨hj1, rfl⟩ := wld_get_inv hj
    exact h.1 i j _ _ (wld_get hi1) (wld_get hj1) e
  · obtain ⟨hk1, rfl⟩ := wld_get_inv hk
    exact h.2 k (q k, cellE P.1 q ca μ k) (wld_get hk1)
theorem wld_A {P : LPk} {q : Nat → Nat} {ca : Nat → ClassId} {μ : Mm} (μ' : Mm) {sz : Nat} : va_A (wld P q ca μ) sz = va_A (wld P q ca μ') sz := by
  have key : ∀ (a b : Mm) (x : Nat), va_A (wld P q ca a) sz x → va_A (wld P q ca b) sz x := by
    intro a b x h
    rcases h with ⟨k, e, hk⟩ | h
    · obtain ⟨hk1, he⟩ := wld_get_inv hk
      have : x = q k := congrArg Prod.fst he
      subst this
      exact Or.inl ⟨k, _, wld_get hk1⟩
    · exact Or.inr h
  funext x
  exact propext ⟨key _ _ x, key _ _ x⟩
/-- a cell replaced by what another memory says of it -/
theorem wld_set {P : LPk} {q : Nat → Nat} {ca : Nat → ClassId} {μ μ' : Mm} {k : Nat} {x : Nat × va_E} (hx : x = (q k, cellE P.1 q ca μ' k)) (ho : ∀ j, j < P.2.1 → j ≠ k → cellE P.1 q ca μ j = cellE P.1 q ca μ' j) : (wld P q ca μ).set k x = wld P q ca μ' := by
  apply List.ext_getElem?
  intro j
  by_cases hj : j < P.2.1
  · by_cases e : k = j
    · subst e
      rw [List.getElem?_set_self (by simpa [wld] using hj), wld_get hj, hx]
    · rw [List.getElem?_set_ne e, wld_get hj, wld_get hj, ho j hj (fun z => e z.symm)]
  · rw [List.getElem?_eq_none (by simp [wld]; omega), List.getElem?_eq_none (by simp [wld]; omega)]
theorem fv_off {q : Nat → Nat} {μ : Mm} {k i j f : Nat} {v : Int} {c : Nat} (h : j ≠ k) : fv q (mst μ k i v) j f c = fv q μ j f c := by
  unfold fv mst
  split <;> simp [h]
theorem cellE_mst {L : Nat → LC} {q : Nat → Nat} {ca : Nat → ClassId} {μ : Mm} {k i j : Nat} {v : Int} (h : j ≠ k) : cellE L q ca μ j = cellE L q ca (mst μ k i v) j := by
  unfold cellE
  split
  · simp [mst, h]
  · rfl
  · simp [fv_off h]
theorem cellE_mrow {L : Nat → LC} {q : Nat → Nat} {ca : Nat → ClassId} {μ : Mm} {k j : Nat} {f : Nat → Int} (h : j ≠ k) : cellE L q ca μ j = cellE L q ca (mrow μ k f) j := by
  unfold cellE
  split
  · simp [mrow, h]
  · rfl
  · simp only [Sum.inr.injEq, Prod.mk.injEq, true_and]
    apply List.map_congr_left
    intro a _
    unfold fv mrow
    split <;> simp [h]
/-! ## locals by their places -/
def lvk (q : Nat → Nat) (Ls : Array Slot) (nL : Nat) (ls : List (Option AV)) : Prop := Ls.size = nL ∧ lv_wf Ls ∧ ∀ (i : Nat) (v : AV), ls[i]? = some (some v) → Ls[i]? = some (.val (cv q v))
def la (q : Nat → Nat) (ls : List (Option AV)) : List (Nat × Value) := (List.range ls.length).filterMap (fun i => ((ls[i]?).bind id).map (fun v => (i, cv q v)))
theorem la_mem {q : Nat → Nat} {ls : List (Option AV)} {x : Nat × Value} : x ∈ la q ls ↔ ∃ v, ls[x.1]? = some (some v) ∧ x.2 = cv q v := by
  obtain ⟨i, w⟩ := x
  simp only [la, List.mem_filterMap, List.mem_range, Option.map_eq_some_iff, Prod.mk.injEq]
  constructor
  · rintro ⟨j, hj, v, hv, rfl, rfl⟩
    refine ⟨v, ?_, rfl⟩
    cases h : ls[j]? with
    | none => rw [h] at hv; simp at hv
    | some o => rw [h] at hv; simp at hv; rw [hv]
  · rintro ⟨v, hv, rfl⟩
    exact ⟨i, (List.getElem?_eq_some_iff.mp hv).1, v, by rw [hv]; rfl, rfl, rfl⟩
theorem lvk.has {q : Nat → Nat} {Ls : Array Slot} {nL : Nat} {ls : List (Option AV)} (h : lvk q Ls nL ls) : lv_has Ls nL (la q ls) := ⟨h.1, h.2.1, fun x hx => by
  obtain ⟨v, h1, h2⟩ := la_mem.mp hx
  rw [h2]
  exact h.2.2 _ _ h1⟩
/-- a value may be stored at place i: no long stands just before it -/
def okS (ls : List (Option AV)) (i : Nat) : Bool := match i with
  | 0 => true
  | j + 1 => match ls[j]? with
    | some (some (.inr (.inl _))) => false
    | _ => true
theorem okS_spec {ls : List (Option AV)} {i j : Nat} (h : okS ls i = true) (hj : j + 1 = i) {x : Int} : ¬ ls[j]? = some (some (.inr (.inl x))) := by
  subst hj
  intro h2
  simp [okS, h2] at h
theorem cv_cat {q : Nat → Nat} {v : AV} (h : (cv q v).category = 2) : ∃ x, v = .inr (.inl x) := by
  rcases v with a | x | _ | k
  · exact absurd h (by decide : ¬ (1 : Nat) = 2)
  · exact ⟨x, rfl⟩
  · exact absurd h (by decide : ¬ (1 : Nat) = 2)
  · exact absurd h (by decide : ¬ (1 : Nat) = 2)
theorem lvk_set1 {q : Nat → Nat} {Ls' : Array Slot} {nL i : Nat} {ls : List (Option AV)} {v : AV} (hi : okS ls i = true)
    (h : lv_has Ls' nL ((i, cv q v) :: (la q ls).filter (fun x => !(x.1 == i) && !(x.1 + 1 == i && x.2.category == 2)))) : lvk q Ls' nL (ls.set i (some v)) := by
  refine ⟨h.1, h.2.1, fun j w hw => ?_⟩
  by_cases e : i = j
  · subst e
    have hl : i < ls.length := by
      have := (List.getElem?_eq_some_iff.mp hw).1
      simpa using this
    rw [List.getElem?_set_self hl] at hw
    cases hw
    exact h.2.2 _ List.mem_cons_self
  · rw [List.getElem?_set_ne e] at hw
    refine h.2.2 (j, cv q w) (List.mem_cons_of_mem _ (List.mem_filter.mpr ⟨la_mem.mpr ⟨w, hw, rfl⟩, ?_⟩))
    simp only [Bool.and_eq_true, Bool.not_eq_true', beq_eq_false_iff_ne, ne_eq, Bool.and_eq_false_imp, beq_iff_eq]
    refine ⟨fun z => e z.symm, fun hj hc => ?_⟩
    obtain ⟨x, rfl⟩ := cv_cat hc
    exact okS_spec hi hj hw
theorem lvk_set2 {q : Nat → Nat} {Ls' : Array Slot} {nL i : Nat} {ls : List (Option AV)} {x : Int} (hi : okS ls i = true)
    (h : lv_has Ls' nL ((i, Value.long (lI x)) :: (la q ls).filter (fun x => !(x.1 == i) && (!(x.1 == i + 1) && !(x.1 + 1 == i && x.2.category == 2))))) : lvk q Ls' nL ((ls.set i (some (vL x))).set (i + 1) none) := by
  refine ⟨h.1, h.2.1, fun j w hw => ?_⟩
  by_cases e1 : i + 1 = j
  · subst e1
    rw [List.getElem?_set] at hw
    simp at hw
  · rw [List.getElem?_set_ne e1] at hw
    by_cases e : i = j
    · subst e
      have hl : i < ls.length := by
        have := (List.getElem?_eq_some_iff.mp hw).1
        simpa using this
      rw [List.getElem?_set_self hl] at hw
      cases hw
      exact h.2.2 _ List.mem_cons_self
    · rw [List.getElem?_set_ne e] at hw
      refine h.2.2 (j, cv q w) (List.mem_cons_of_mem _ (List.mem_filter.mpr ⟨la_mem.mpr ⟨w, hw, rfl⟩, ?_⟩))
      simp only [Bool.and_eq_true, Bool.not_eq_true', beq_eq_false_iff_ne, ne_eq, Bool.and_eq_false_imp, beq_iff_eq]
      refine ⟨fun z => e z.symm, fun z => e1 z.symm, fun hj hc => ?_⟩
      obtain ⟨x, rfl⟩ := cv_cat hc
      exact okS_spec hi hj hw
/-! ## the machine at a place, said of memory alone -/
def rmd (d : Nat) : Room := { frames := d, cells := 0, slots := 0, locals := 60 * d }
/-- what a method's end says: its answer and the memory behind it -/
def CQ (P : LPk) (q : Nat → Nat) (ca : Nat → ClassId) (D : va_G) (A : Nat → Prop) (Qs : Option AV → Mm → Prop) : Array Value → State → Outcome → State → Prop := fun _ st oc t => (∃ (r : Option AV) (μ : Mm), oc = .returned (r.map (cv q)) ∧ Qs r μ ∧ va_P D vwCl (wld P q ca μ) t.heap) ∧ va_F A st t
abbrev KT : Type := (Program × Launch × Env × Room × State × MethodId × Array Value × List Frame × Method × Code) × ((Nat → Nat) × (Nat → ClassId) × va_G × (Nat → Prop) × Nat × LPk × (Option AV → Mm → Prop))
abbrev KT.p (K : KT) : Program := K.1.1
abbrev KT.l (K : KT) : Launch := K.1.2.1
abbrev KT.e (K : KT) : Env := K.1.2.2.1
abbrev KT.R (K : KT) : Room := K.1.2.2.2.1
abbrev KT.s (K : KT) : State := K.1.2.2.2.2.1
abbrev KT.m (K : KT) : MethodId := K.1.2.2.2.2.2.1
abbrev KT.args (K : KT) : Array Value := K.1.2.2.2.2.2.2.1
abbrev KT.below (K : KT) : List Frame := K.1.2.2.2.2.2.2.2.1
abbrev KT.meth (K : KT) : Method := K.1.2.2.2.2.2.2.2.2.1
abbrev KT.c (K : KT) : Code := K.1.2.2.2.2.2.2.2.2.2
abbrev KT.q (K : KT) : Nat → Nat := K.2.1
abbrev KT.ca (K : KT) : Nat → ClassId := K.2.2.1
abbrev KT.D (K : KT) : va_G := K.2.2.2.1
abbrev KT.A (K : KT) : Nat → Prop := K.2.2.2.2.1
abbrev KT.b (K : KT) : Nat := K.2.2.2.2.2.1
abbrev KT.P (K : KT) : LPk := K.2.2.2.2.2.2.1
abbrev KT.Q (K : KT) : Option AV → Mm → Prop := K.2.2.2.2.2.2.2
def AW (K : KT) (pc : Nat) (ls : List (Option AV)) (st : List AV) (μ : Mm) : Prop := ∀ (H : Heap) (locs : List Loc) (Ls : Array Slot), va_P K.D vwCl (wld K.P K.q K.ca μ) H → va_S K.A K.s.heap H locs → lvk K.q Ls ls.length ls → W K.p K.l K.e K.R K.s K.m K.args K.below K.meth K.c H locs 0 0 (MQ K.below (CQ K.P K.q K.ca K.D K.A K.Q) K.args K.s 0 0 K.A) (F0 K.m pc Ls (st.map (cv K.q)))
/-- the words that go from a caller to its callee; those of nest mates -/
def lw_g : List Cond := lw_tbl.filter goodWord
def isNst (w : Cond) : Bool := match w with
  | .fieldLinkNest .. => true
  | .methodLinkNest .. => true
  | _ => false
def lw_n : List Cond := lw_tbl.filter isNst
theorem lw_in {w : Cond} (i : Nat) (h : lw_tbl[i]? = some w) (g : goodWord w = true) : w ∈ lw_g := List.mem_filter.mpr ⟨List.mem_of_getElem? h, g⟩
theorem lw_inN {w : Cond} (i : Nat) (h : lw_tbl[i]? = some w) (g : isNst w = true) : w ∈ lw_n := List.mem_filter.mpr ⟨List.mem_of_getElem? h, g⟩
def NW (U : State) : Prop := ∀ w ∈ lw_n, va_Nw w U
theorem NW.same {u U : State} (h : u.vm = U.vm) (hN : NW u) : NW U := fun w hw => by
  have h1 := hN w hw
  have h2 := (List.mem_filter.mp hw).2
  unfold isNst at h2
  split at h2
  · exact va_Nw.same rfl h h1
  · exact va_Nw.same rfl h h1
  · cases h2
theorem NW.warm {u U : State} (h : u.WarmedH U.vm) (hN : NW u) : NW U := fun w hw => by
  have h1 := hN w hw
  have h2 := (List.mem_filter.mp hw).2
  unfold isNst at h2
  split at h2
  · exact va_Nw.warmF h h1
  · exact va_Nw.warmM h h1
  · cases h2
/-- what stays true of old cells -/
def XOk (P : LPk) : Prop := ∀ (q : Nat → Nat) (A : Nat → Prop) (u U : State), (u.vm = U.vm ∨ u.WarmedH U.vm) → (∀ a : Nat, a < u.heap.size → ¬ A a → U.heap[a]? = u.heap[a]?) → P.2.2 q A u → P.2.2 q A U
def KOk (P : LPk) (Q : Option AV → Mm → Prop) (K : KT) (cc : ByteArray) (own : String) (nL d : Nat) (ret : Option FieldType) : Prop :=
  (K.p.tables.exec = Jvm.exec ∧ K.c.code = cc ∧ K.c.maxLocals = nL ∧ K.s.vm.findClass own = some K.m.cls ∧ ∀ w ∈ lw_g, w.before K.args K.s = true) ∧
  (va_K K.D vwCl (wty K.P K.ca) K.s ∧ (∀ μ, va_D K.A (wld K.P K.q K.ca μ)) ∧ (∀ a, K.s.heap.size ≤ a → K.A a) ∧ K.R = rmd d ∧ K.meth.sig.returnType = ret ∧ K.meth.locks = false) ∧
  (XOk K.P ∧ K.P.2.2 K.q (fun a => K.b ≤ a) K.s ∧ K.b ≤ K.s.heap.size ∧ (∀ a, K.A a → K.b ≤ a) ∧ K.P = P ∧ K.Q = Q ∧ NW K.s)
/-- a method's contract over memory -/
def Ct (P : LPk) (d : Nat) (y : MethodName) (cc : ByteArray) (maxL : Nat) (ret : Option FieldType) (as : List AV) (μ : Mm) (Q : Option AV → Mm → Prop) : Prop :=
  ∀ (l : Launch) (q : Nat → Nat) (ca : Nat → ClassId) (D : va_G) (sz b : Nat), Met l y (.code y cc maxL ret :: lw_g) (rmd d) (va_Pc (as.map (cv q)) (fun U => U.heap.size = sz ∧ va_P D vwCl (wld P q ca μ) U.heap ∧ va_K D vwCl (wty P ca) U ∧ va_D (fun a => b ≤ a) (wld P q ca μ) ∧ P.2.2 q (fun a => b ≤ a) U ∧ b ≤ sz ∧ NW U)) (CQ P q ca D (va_A (wld P q ca μ) sz) Q) 0 0 (va_A (wld P q ca μ) sz)
