/-! ## a row of rows of whole numbers is made (no row of the kit does this: shown of the machine's own words) -/
def mkO (cA : ClassId) (n h0 i : Nat) : Cell := arrV cA n (fun j => if j < i then .ref (h0 + 1 + j) else .null)
def mkI (cB : ClassId) (m : Nat) : Cell := arrV cB m (fun _ => .int 0)
def mkS (T : State) (cA cB : ClassId) (n m : Nat) : Nat → State
  | 0 => T.pushCell (mkO cA n T.heap.size 0)
  | i + 1 => ((mkS T cA cB n m i).pushCell (mkI cB m)).setCell T.heap.size (mkO cA n T.heap.size (i + 1))
theorem mkO_0 (cA : ClassId) (n h0 : Nat) : ({ cls := cA, slots := Array.replicate n .null, vm := .none } : Cell) = mkO cA n h0 0 := by
  rw [arrV_new]
  unfold mkO
  simp
theorem mkO_s (cA : ClassId) (n h0 i : Nat) : (mkO cA n h0 i).setSlot i (.ref (h0 + 1 + i)) = mkO cA n h0 (i + 1) := by
  unfold mkO
  rw [arrV_store]
  congr 1
  funext j
  unfold updV
  by_cases e : j = i
  · simp [e]
  · by_cases h : j < i
    · simp [e, h, show j < i + 1 by omega]
    · simp [e, h, show ¬ j < i + 1 by omega]
theorem mkO_sz (cA : ClassId) (n h0 i : Nat) : (mkO cA n h0 i).slots.size = n := arrV_size _ _ _
theorem mkI_sz (cB : ClassId) (m : Nat) : (mkI cB m).slots.size = m := arrV_size _ _ _
theorem mkS_at (T : State) (cA cB : ClassId) (n m : Nat) : ∀ i, (mkS T cA cB n m i).heap.size = T.heap.size + 1 + i ∧ (mkS T cA cB n m i).heap[T.heap.size]? = some (mkO cA n T.heap.size i) ∧ (mkS T cA cB n m i).vm = T.vm ∧ (mkS T cA cB n m i).slotsUsed = T.slotsUsed + n + i * m ∧ (∀ a, a < T.heap.size → (mkS T cA cB n m i).heap[a]? = T.heap[a]?) ∧ ∀ j, j < i → (mkS T cA cB n m i).heap[T.heap.size + 1 + j]? = some (mkI cB m)
  | 0 => ⟨by simp [mkS], by simp [mkS], rfl, by simp [mkS, mkO_sz], fun a ha => State.heap_pushCell_of_lt _ _ ha, fun j hj => absurd hj (Nat.not_lt_zero _)⟩
  | i + 1 => by
    obtain ⟨h1, h2, h3, h4, h5, h6⟩ := mkS_at T cA cB n m i
    have hlt : T.heap.size < (mkS T cA cB n m i).heap.size := by omega
    have hO : ((mkS T cA cB n m i).pushCell (mkI cB m)).heap[T.heap.size]? = some (mkO cA n T.heap.size i) := by rw [State.heap_pushCell_of_lt (h := hlt)]; exact h2
    refine ⟨?_, State.heap_setCell_self hO, by simp [mkS, h3], ?_, fun a ha => ?_, fun j hj => ?_⟩
    · simp [mkS, State.setCell, h1]; omega
    · simp [mkS, h4, mkI_sz, Nat.succ_mul]; omega
    · show (((mkS T cA cB n m i).pushCell (mkI cB m)).setCell T.heap.size _).heap[a]? = _
      have hl2 : a < (mkS T cA cB n m i).heap.size := by omega
      rw [State.heap_setCell_other (Nat.ne_of_gt ha), State.heap_pushCell_of_lt (h := hl2)]
      exact h5 a ha
    · show (((mkS T cA cB n m i).pushCell (mkI cB m)).setCell T.heap.size _).heap[T.heap.size + 1 + j]? = _
      rw [State.heap_setCell_other (show T.heap.size ≠ T.heap.size + 1 + j by omega)]
      rcases Nat.lt_or_ge j i with hj2 | hj2
      · have hl2 : T.heap.size + 1 + j < (mkS T cA cB n m i).heap.size := by omega
        rw [State.heap_pushCell_of_lt (h := hl2)]
        exact h6 j hj2
      · have e : j = i := by omega
        subst e
        rw [← h1]
        exact State.heap_pushCell_size _ _
theorem mkS_top (T : State) (f : JFrame) (cA cB : ClassId) (n m : Nat) : ∀ i, mkS (T.setTop f) cA cB n m i = (mkS T cA cB n m i).setTop f
  | 0 => rfl
  | i + 1 => by simp only [mkS, mkS_top T f cA cB n m i, State.heap_setTop, State.pushCell_setTop, State.setCell_setTop]
section
variable {E : CtlPost} {e : Env} {d : Bool} {acts : List Action} {s : State}
theorem mk_newArray {cA comp : ClassId} {k : Class} {type : FieldType} {len : Nat} {init : Value} (hk : s.vm.classes[cA]? = some k) (hkind : k.kind = .array comp type) (hlimit : ¬ len > e.platform.arrayLengthLimit) (hheap : ¬ len * componentBytes type > e.platform.maxHeapBytes) (hfit : fits type init = true) (hdef : init.isDefault = true) {Q : Addr → Pre} (h1 : s.heap.size < e.platform.maxCells) (h2 : s.slotsUsed + len ≤ e.platform.maxSlots) (hq : Q s.heap.size d acts (s.pushCell (arrV cA len (fun _ => init)))) : wp (Jvm.newArray cA len init) Q E e d acts s := by
  have hfits : ∀ i v, (Array.replicate len init)[i]? = some v → s.fitsSlot cA .none i v = true := by
    intro i v hv
    simp only [Array.getElem?_replicate] at hv
    split at hv
    · cases hv; simp [State.fitsSlot, State.slotType?, hk, hkind, hfit]
    · cases hv
  have hda : allocActs (Array.replicate len init) s.heap.size acts = acts := by
    have hall : ((Array.replicate len init).all (·.isDefault)) = true := by
      rw [Array.all_replicate]; split <;> simp [hdef]
    unfold allocActs; rw [if_pos hall]
  simp only [Jvm.newArray, Jvm.arrayFits, wp_bind', Jvm.W.ask, Jvm.W.ite, hlimit, if_false, wp_pure', Jvm.W.theClass, hk, hkind, hheap, Jvm.W.alloc, Jvm.W.stop, Option.some.injEq, exists_eq_left', Array.size_replicate, hda]
  rw [if_neg (by omega)]
  rw [arrV_new] at *
  exact ⟨h1, h2, hfits, hq⟩
theorem mk_inner {cB cc : ClassId} {kc : Class} {m : Int32} (hkc : s.vm.classes[cB]? = some kc) (hkindc : kc.kind = .array cc .int) (hm : ¬ m < 0) (hl2 : ¬ m.toNatClampNeg > e.platform.arrayLengthLimit) (hh2 : ¬ m.toNatClampNeg * componentBytes .int > e.platform.maxHeapBytes) (h1 : s.heap.size < e.platform.maxCells) (h2 : s.slotsUsed + m.toNatClampNeg ≤ e.platform.maxSlots) {Q : Addr → Pre} (hq : Q s.heap.size d acts (s.pushCell (mkI cB m.toNatClampNeg))) : wp (multianewarray.make cB [m]) Q E e d acts s := by
  rw [multianewarray.make]
  simp only [wp_bind', Jvm.W.ite, hm, if_false, wp_pure', Jvm.W.theClass, hkc, hkindc, Option.some.injEq, exists_eq_left']
  exact mk_newArray hkc hkindc hl2 hh2 rfl rfl h1 h2 hq
theorem mk_both {cA cB cc : ClassId} {k kc : Class} {n m : Int32} (hk : s.vm.classes[cA]? = some k) (hkind : k.kind = .array cB (.array .int)) (hkc : s.vm.classes[cB]? = some kc) (hkindc : kc.kind = .array cc .int) (hn : ¬ n < 0) (hm : ¬ m < 0)
    (hl1 : ¬ n.toNatClampNeg > e.platform.arrayLengthLimit) (hh1 : ¬ n.toNatClampNeg * componentBytes (.array .int) > e.platform.maxHeapBytes) (hl2 : ¬ m.toNatClampNeg > e.platform.arrayLengthLimit) (hh2 : ¬ m.toNatClampNeg * componentBytes .int > e.platform.maxHeapBytes)
    (hc : s.heap.size + 1 + n.toNatClampNeg ≤ e.platform.maxCells) (hs : s.slotsUsed + n.toNatClampNeg + n.toNatClampNeg * m.toNatClampNeg ≤ e.platform.maxSlots) {Q : Addr → Pre} (hq : ∀ d' acts', Q s.heap.size d' acts' (mkS s cA cB n.toNatClampNeg m.toNatClampNeg n.toNatClampNeg)) : wp (multianewarray.make cA [n, m]) Q E e d acts s := by
  have hfind : ([m].find? (· < 0)) = none := by simp [hm]
  rw [multianewarray.make]
  simp only [wp_bind', Jvm.W.ite, hn, if_false, wp_pure', Jvm.W.theClass, hk, hkind, Option.some.injEq, exists_eq_left']
  refine mk_newArray hk hkind hl1 hh1 rfl rfl (by omega) (by have := Nat.zero_le (n.toNatClampNeg * m.toNatClampNeg); omega) ?_
  simp only [hfind]
  rw [ite_self, wp_bind', Std.Legacy.Range.forIn_eq_forIn_range']
  have hsz : ([:n.toNatClampNeg] : Std.Legacy.Range).size = n.toNatClampNeg := by simp [Std.Legacy.Range.size]
  rw [hsz]
  show wp (forIn (List.range' 0 n.toNatClampNeg 1) PUnit.unit _) _ E e d acts _
  refine wp_forIn_inv (fun rest s' => ∃ i, i ≤ n.toNatClampNeg ∧ rest = List.range' i (n.toNatClampNeg - i) ∧ s' = mkS s cA cB n.toNatClampNeg m.toNatClampNeg i) _ _ ⟨0, Nat.zero_le _, rfl, by
    unfold mkS mkO
    simp⟩ ?_ ?_
  · rintro x rest s' d' acts' Q' ⟨i, hi, hl, rfl⟩ hnext
    have hlt : i < n.toNatClampNeg := by
      rcases Nat.lt_or_ge i n.toNatClampNeg with h | h
      · exact h
      · rw [show n.toNatClampNeg - i = 0 from by omega] at hl; simp at hl
    rw [show n.toNatClampNeg - i = (n.toNatClampNeg - (i + 1)) + 1 from by omega, List.range'_succ] at hl
    obtain ⟨rfl, hrest⟩ := List.cons.inj hl
    obtain ⟨f1, f2, f3, f4, -, -⟩ := mkS_at s cA cB n.toNatClampNeg m.toNatClampNeg x
    have hmul : x * m.toNatClampNeg + m.toNatClampNeg ≤ n.toNatClampNeg * m.toNatClampNeg := by
      have := Nat.mul_le_mul_right m.toNatClampNeg (show x + 1 ≤ n.toNatClampNeg from hlt)
      rw [Nat.succ_mul] at this; exact this
    simp only [wp_bind']
    refine mk_inner (by rw [f3]; exact hkc) hkindc hm hl2 hh2 (by rw [f1]; omega) (by rw [f4]; omega) ?_
    simp only [wp_bind', Jvm.W.writeLoc, wp_pure']
    have hl3 : s.heap.size < (mkS s cA cB n.toNatClampNeg m.toNatClampNeg x).heap.size := by omega
    refine ⟨mkO cA n.toNatClampNeg s.heap.size x, by rw [State.heap_pushCell_of_lt (h := hl3)]; exact f2, by unfold mkO arrV; simp, by rw [mkO_sz]; exact hlt, ?_, hnext _ _ _ ⟨x + 1, hlt, hrest, ?_⟩⟩
    · simp [mkO, arrV, State.fitsSlot, State.slotType?, f3, hk, hkind, fits]
    · rw [f1, mkO_s]; rfl
  · rintro s' d' acts' ⟨i, hi, hl, rfl⟩
    have hiN : i = n.toNatClampNeg := by
      rcases Nat.lt_or_ge i n.toNatClampNeg with h | h
      · rw [show n.toNatClampNeg - i = (n.toNatClampNeg - (i + 1)) + 1 from by omega, List.range'_succ] at hl; cases hl
      · omega
    subst hiN
    simp only [wp_pure']
    exact hq _ _
end
/-- the classes of rows of rows: what stays true while classes stay -/
def XR (U : State) : Prop := ∃ (cA cB cc : ClassId) (kA kB : Class), U.vm.findClass "[[I" = some cA ∧ U.vm.findClass "[I" = some cB ∧ U.vm.classes[cA]? = some kA ∧ kA.kind = .array cB (.array .int) ∧ U.vm.classes[cB]? = some kB ∧ kB.kind = .array cc .int
theorem XR.moved {u U : State} (hvm : u.vm.Alike U.vm) (h : XR u) : XR U := by
  obtain ⟨cA, cB, cc, kA, kB, h1, h2, h3, h4, h5, h6⟩ := h
  obtain ⟨kA', a1, a2⟩ := hvm.2.2 _ _ h3
  obtain ⟨kB', b1, b2⟩ := hvm.2.2 _ _ h5
  exact ⟨cA, cB, cc, kA', kB', by rw [hvm.findClass]; exact h1, by rw [hvm.findClass]; exact h2, a1, by rw [a2]; exact h4, b1, by rw [b2]; exact h6⟩
section
variable {p : Program} {l : Launch} {e : Env} {R : Room} {s : State} {m : MethodId} {args : Array Value} {below : List Frame} {meth : Method} {c : Code} {H : Heap} {locs : List Loc} {cells slots : Nat} {Q : State → Prop}
theorem mk_stand {T : State} (X : Stand p l e R s m args below meth c T locs cells slots) (cA cB : ClassId) (n k : Nat) : ∀ i, Stand p l e R s m args below meth c (mkS T cA cB n k i) (locs ++ (List.range i).map fun j => ⟨T.heap.size, j⟩) (cells + 1 + i) (slots + n + i * k)
  | 0 => by
    have h := X.pushed (mkO cA n T.heap.size 0)
    rw [mkO_sz] at h
    simpa [mkS] using h
  | i + 1 => by
    have Xi := mk_stand X cA cB n k i
    obtain ⟨f1, f2, -⟩ := mkS_at T cA cB n k i
    have hcell : ((mkS T cA cB n k i).pushCell (mkI cB k)).heap[T.heap.size]? = some (mkO cA n T.heap.size i) := by
      have hl2 : T.heap.size < (mkS T cA cB n k i).heap.size := by omega
      rw [State.heap_pushCell_of_lt (h := hl2)]
      exact f2
    have h := (Xi.pushed (mkI cB k)).stored hcell i (.ref (T.heap.size + 1 + i))
    rw [mkI_sz, mkO_s] at h
    have e2 : (locs ++ (List.range (i + 1)).map fun j => (⟨T.heap.size, j⟩ : Loc)) = (locs ++ (List.range i).map fun j => (⟨T.heap.size, j⟩ : Loc)) ++ [⟨T.heap.size, i⟩] := by simp [List.range_succ, List.append_assoc]
    have e3 : slots + n + (i + 1) * k = slots + n + i * k + k := by rw [Nat.succ_mul]; omega
    rw [e2, e3]
    exact h
set_option maxHeartbeats 4000000 in
theorem W.rows {cc : ByteArray} (hexec : p.tables.exec = Jvm.exec) (hb : c.code = cc) {own : String} {index : Nat} (hown : s.vm.findClass own = some m.cls) (hclink : (Cond.classLink own index "[[I").before args s = true) (hXR : XR s)
    {pc : Nat} {ls : Array Slot} {rest : List Value} {n k : Int32} {N M : Nat} (hdg : decode cc pc = .ok (.multianewarray index 2, 4)) (hn : ¬ n < 0) (hk : ¬ k < 0) (hN : n.toNatClampNeg = N) (hM : k.toNatClampNeg = M) (hb1 : N * 4 ≤ 536870912) (hb2 : M * 4 ≤ 536870912)
    (hcells : cells + (1 + N) ≤ R.cells) (hslots : slots + (N + N * M) ≤ R.slots)
    (kk : ∀ (cA cB cc0 : ClassId) (kA kB : Class) (H1 : Heap) (locs1 : List Loc), s.vm.findClass "[[I" = some cA → s.vm.findClass "[I" = some cB → s.vm.classes[cA]? = some kA → kA.kind = .array cB (.array .int) → s.vm.classes[cB]? = some kB → kB.kind = .array cc0 .int →
      H1.size = H.size + 1 + N → H1[H.size]? = some (mkO cA N H.size N) → (∀ a, a < H.size → H1[a]? = H[a]?) → (∀ j, j < N → H1[H.size + 1 + j]? = some (mkI cB M)) → (∀ x ∈ locs1, x ∈ locs ∨ x.base = H.size) →
      W p l e R s m args below meth c H1 locs1 (cells + 1 + N) (slots + N + N * M) Q (F0 m (pc + 4) ls (.ref H.size :: rest))) : W p l e R s m args below meth c H locs cells slots Q (F0 m pc ls (.int k :: .int n :: rest)) := by
  intro T hT X
  subst hT; subst hb; subst hN; subst hM
  obtain ⟨cA, cB, cc0, kA, kB, q1, q2, q3, q4, q5, q6⟩ := hXR
  have hpl : e.platform.magicAccessors = ({} : Platform).magicAccessors := by rw [X.admits.platform]
  obtain ⟨c0, hfc0, hcl⟩ := Cond.classLink_spec hown hclink e.platform hpl
  cases q1.symm.trans hfc0
  obtain ⟨hg₁, hwarm₁, hready₁⟩ := State.classEntry (e := e) X.warmed hcl
  generalize T.vm.noted m.cls index (.cls cA) = vm₁ at hg₁ hwarm₁ hready₁
  have hal : s.vm.Alike vm₁ := hwarm₁.alike
  obtain ⟨kA₁, hkA₁, heA⟩ := hal.2.2 _ _ q3
  obtain ⟨kB₁, hkB₁, heB⟩ := hal.2.2 _ _ q5
  have hkindA₁ : kA₁.kind = .array cB (.array .int) := by rw [heA]; exact q4
  have hkindB₁ : kB₁.kind = .array cc0 .int := by rw [heB]; exact q6
  have X₁ := X.noted hwarm₁
  obtain ⟨hr1, hr2⟩ := X.roomAbove hcells hslots
  have XF := mk_stand X₁ cA cB n.toNatClampNeg k.toNatClampNeg n.toNatClampNeg
  obtain ⟨f1, f2, f3, f4, f5, f6⟩ := mkS_at (T.setVm vm₁) cA cB n.toNatClampNeg k.toNatClampNeg n.toNatClampNeg
  obtain ⟨t, a1, b1⟩ := kk cA cB cc0 kA kB (mkS (T.setVm vm₁) cA cB n.toNatClampNeg k.toNatClampNeg n.toNatClampNeg).heap _ q1 q2 q3 q4 q5 q6 f1 f2 f5 f6 (fun x hx => by
    rcases List.mem_append.mp hx with h | h
    · exact Or.inl h
    · obtain ⟨j, -, rfl⟩ := List.mem_map.mp h
      exact Or.inr rfl) _ rfl XF
  refine ⟨t, ?_, b1⟩
  have hl1 : ¬ n.toNatClampNeg > e.platform.arrayLengthLimit := by rw [Launch.admits_arrayLengthLimit X.admits]; omega
  have hh1 : ¬ n.toNatClampNeg * componentBytes (.array .int) > e.platform.maxHeapBytes := by
    rw [Launch.admits_maxHeapBytes X.admits]; show ¬ n.toNatClampNeg * 4 > 536870912; omega
  have hl2 : ¬ k.toNatClampNeg > e.platform.arrayLengthLimit := by rw [Launch.admits_arrayLengthLimit X.admits]; omega
  have hh2 : ¬ k.toNatClampNeg * componentBytes .int > e.platform.maxHeapBytes := by
    rw [Launch.admits_maxHeapBytes X.admits]; show ¬ k.toNatClampNeg * 4 > 536870912; omega
  jvm_step X.here [hexec, hdg]
  simp only [multianewarray.sem, wp_bind', Jvm.W.resolveClassAt_links (State.method?_setTop (F0 m pc ls (.int k :: .int n :: rest)) X.here.top) hg₁]
  rw [Jvm.W.popN, if_neg (by decide)]
  refine ⟨F0 m pc ls (.int k :: .int n :: rest), State.topJava?_setTop' (s := T.setVm vm₁) _ X.here.top, [.int n, .int k], rest, rfl, rfl, ?_⟩
  simp only [List.mapM_cons, List.mapM_nil, wp_bind', wp_pure']
  refine mk_both (k := kA₁) (kc := kB₁) (cc := cc0) hkA₁ hkindA₁ hkB₁ hkindB₁ hn hk hl1 hh1 hl2 hh2 (by show T.heap.size + 1 + _ ≤ _; omega) (by show T.slotsUsed + _ + _ ≤ _; omega) (fun d' acts' => ?_)
  have eS : ((T.setTop (F0 m pc ls (.int k :: .int n :: rest))).setVm vm₁).setTop (F0 m pc ls rest) = (T.setVm vm₁).setTop (F0 m pc ls rest) := by
    show ((T.setVm vm₁).setTop _).setTop _ = _
    rw [State.setTop_setTop]
  rw [eS, mkS_top]
  simp only [wp_bind', Jvm.W.mark, Jvm.W.pushRef, State.topJava?_setTop' _ XF.here.top, Option.some.injEq, exists_eq_left', State.setTop_setTop, State.heap_setTop]
  intro acts
  simp [jvm, XF.here.top]
  exact a1
end
