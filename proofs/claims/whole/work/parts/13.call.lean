/-! ## contracts: how they are shown and used -/
/-- the locals with which a method begins -/
def ent (as : List AV) : List (Option AV) := match as with
  | [] => []
  | .inl a :: r => some (vI a) :: ent r
  | .inr (.inl x) :: r => some (vL x) :: none :: ent r
  | .inr (.inr o) :: r => some (.inr (.inr o)) :: ent r
def entL (as : List AV) (n : Nat) : List (Option AV) := ent as ++ List.replicate (n - (ent as).length) none
theorem ent_args (q : Nat → Nat) : ∀ (as : List AV) (b i : Nat) (v : AV), (ent as)[i]? = some (some v) → (b + i, cv q v) ∈ lv_args b (as.map (cv q))
  | [], b, i, v, h => by simp [ent] at h
  | .inl a :: r, b, i, v, h => by
    show (b + i, cv q v) ∈ (b, cv q (vI a)) :: lv_args (b + 1) (r.map (cv q))
    match i, h with
    | 0, h =>
      simp [ent] at h
      subst h
      exact List.mem_cons_self
    | i + 1, h =>
      have := ent_args q r (b + 1) i v (by simpa [ent] using h)
      rw [show b + (i + 1) = b + 1 + i by omega]
      exact List.mem_cons_of_mem _ this
  | .inr (.inl x) :: r, b, i, v, h => by
    show (b + i, cv q v) ∈ (b, cv q (vL x)) :: lv_args (b + 2) (r.map (cv q))
    match i, h with
    | 0, h =>
      simp [ent] at h
      subst h
      exact List.mem_cons_self
    | 1, h => simp [ent] at h
    | i + 2, h =>
      have := ent_args q r (b + 2) i v (by simpa [ent] using h)
      rw [show b + (i + 2) = b + 2 + i by omega]
      exact List.mem_cons_of_mem _ this
  | .inr (.inr none) :: r, b, i, v, h => by
    show (b + i, cv q v) ∈ (b, cv q vN) :: lv_args (b + 1) (r.map (cv q))
    match i, h with
    | 0, h =>
      simp [ent] at h
      subst h
      exact List.mem_cons_self
    | i + 1, h =>
      have := ent_args q r (b + 1) i v (by simpa [ent] using h)
      rw [show b + (i + 1) = b + 1 + i by omega]
      exact List.mem_cons_of_mem _ this
  | .inr (.inr (some k)) :: r, b, i, v, h => by
    show (b + i, cv q v) ∈ (b, cv q (vR k)) :: lv_args (b + 1) (r.map (cv q))
    match i, h with
    | 0, h =>
      simp [ent] at h
      subst h
      exact List.mem_cons_self
    | i + 1, h =>
      have := ent_args q r (b + 1) i v (by simpa [ent] using h)
      rw [show b + (i + 1) = b + 1 + i by omega]
      exact List.mem_cons_of_mem _ this
theorem ent_len (q : Nat → Nat) : ∀ as : List AV, (lg_sl (as.map (cv q))).length = (ent as).length
  | [] => rfl
  | .inl a :: r => by rw [show lg_sl ((.inl a :: r : List AV).map (cv q)) = [Slot.val (.int (iI a))] ++ lg_sl (r.map (cv q)) from rfl, List.length_append, ent_len q r]; simp [ent]; omega
  | .inr (.inl x) :: r => by rw [show lg_sl ((.inr (.inl x) :: r : List AV).map (cv q)) = [Slot.val (.long (lI x)), Slot.second] ++ lg_sl (r.map (cv q)) from rfl, List.length_append, ent_len q r]; simp [ent]; omega
  | .inr (.inr none) :: r => by rw [show lg_sl ((.inr (.inr none) :: r : List AV).map (cv q)) = [Slot.val .null] ++ lg_sl (r.map (cv q)) from rfl, List.length_append, ent_len q r]; simp [ent]; omega
  | .inr (.inr (some k)) :: r => by rw [show lg_sl ((.inr (.inr (some k)) :: r : List AV).map (cv q)) = [Slot.val (.ref (q k))] ++ lg_sl (r.map (cv q)) from rfl, List.length_append, ent_len q r]; simp [ent]; omega
theorem lvk_ent (q : Nat → Nat) (as : List AV) {n : Nat} (h : (ent as).length ≤ n) : lvk q ((lg_sl (as.map (cv q)) ++ List.replicate (n - (lg_sl (as.map (cv q))).length) Slot.unset).toArray) (entL as n).length (entL as n) := by
  have h0 := lv_entry (as.map (cv q)) (n := n) (by rw [ent_len]; exact h)
  have hl : (entL as n).length = n := by simp [entL]; omega
  refine ⟨by rw [hl]; exact h0.1, h0.2.1, fun i v hi => ?_⟩
  have hi2 : (ent as)[i]? = some (some v) := by
    unfold entL at hi
    by_cases hc : i < (ent as).length
    · rwa [List.getElem?_append_left hc] at hi
    · rw [List.getElem?_append_right (by omega), List.getElem?_replicate] at hi
      split at hi <;> simp at hi
  have := ent_args q as 0 i v hi2
  rw [Nat.zero_add] at this
  exact h0.2.2 _ this
theorem ct_intro {P : LPk} {d : Nat} {y : MethodName} {cc : ByteArray} {maxL : Nat} {ret : Option FieldType} {as : List AV} {μ : Mm} {Q : Option AV → Mm → Prop} (ls : List (Option AV)) (own : String) (hy : plainName y.cls = true) (ho : y.cls = own) (hX : XOk P) (hls : entL as maxL = ls) (hle : (ent as).length ≤ maxL)
    (body : ∀ K : KT, KOk P Q K cc own maxL d ret → AW K 0 ls [] μ) : Ct P d y cc maxL ret as μ Q := by
  intro l q ca D sz b
  refine Met.ofW (cc := cc) (maxL := maxL) (ret := ret) hy rfl ?_
  intro p e s m args below meth c s₁ B hml hv
  obtain ⟨rfl, hsz, hP, hK, hD, hXX, hbs, hNW⟩ := hv
  have hts0 := atoms_spec (ws := .code y cc maxL ret :: lw_g) B.pre
  have hown : s.vm.findClass y.cls = some m.cls := findClass_of_methodNamed B.named
  subst hsz
  subst ho
  subst hls
  have hw := body ((p, l, e, rmd d, s, m, (as.map (cv q)).toArray, below, meth, c), (q, ca, D, va_A (wld P q ca μ) s.heap.size, b, P, Q)) ⟨⟨B.exec, B.bytes, hml, hown, fun w hw => hts0 w (List.mem_cons_of_mem _ hw)⟩, ⟨hK, fun μ' => by rw [wld_A μ']; exact (wld_D μ' hD).self, fun a h => Or.inr h, rfl, B.returns, B.notSynchronized⟩, hX, hXX, hbs, fun a h => by
    rcases h with ⟨k, x, hk⟩ | h
    · exact hD.2 k _ hk
    · exact Nat.le_trans hbs h, rfl, rfl, hNW⟩
  rw [lg_entry_eq]
  exact hw s.heap [] _ hP va_S.rf (lvk_ent q as hle)
/-- the words of a call's callee -/
def CkB (y : MethodName) (cc : ByteArray) (maxL : Nat) (ret : Option FieldType) (na : Nat) : Prop := Cond.code y cc maxL ret ∈ lw_g ∧ Cond.initialized y.cls ∈ lw_g ∧ (y.cls ≠ "java/lang/invoke/MethodHandle" ∧ y.cls ≠ "java/lang/invoke/VarHandle" ∧ (parseMethodDescriptor y.desc).map (fun d => d.parameters.length) = some na) ∧ maxL ≤ 41
def CkV (y : MethodName) (cc : ByteArray) (maxL : Nat) (ret : Option FieldType) (na : Nat) : Prop := CkB y cc maxL ret na ∧ Cond.instanceMethod y ∈ lw_g ∧ Cond.selects y.cls y y ∈ lw_g
def CkS (y : MethodName) (cc : ByteArray) (maxL : Nat) (ret : Option FieldType) (na : Nat) : Prop := CkB y cc maxL ret na ∧ Cond.static y ∈ lw_g
theorem lw_good : GoodIn lw_g lw_g := fun w hw => ⟨hw, good_of_word (List.mem_filter.mp hw).2⟩
theorem lw_goodc {y : MethodName} {cc : ByteArray} {maxL : Nat} {ret : Option FieldType} (h : Cond.code y cc maxL ret ∈ lw_g) : GoodIn lw_g (.code y cc maxL ret :: lw_g) := fun w hw => by
  rcases List.mem_cons.mp hw with rfl | hw
  · exact lw_good _ h
  · exact lw_good w hw
section
variable {P : LPk} {Q : Option AV → Mm → Prop} {K : KT} {cc : ByteArray} {own : String} {nL d : Nat} {ret : Option FieldType} {pc n : Nat} {ls : List (Option AV)} {st : List AV} {μ : Mm}
theorem rmd_in {d d' maxL : Nat} (h : d' + 1 ≤ d) (hm : maxL ≤ 41) : (rmd d').frames + 1 ≤ (rmd d).frames ∧ 8 + (maxL + 11) + (rmd d').locals ≤ (rmd d).locals := by
  show d' + 1 ≤ d ∧ 8 + (maxL + 11) + 60 * d' ≤ 60 * d
  omega
/-- behind a call: what the callee's contract gives -/
theorem aw_back {Q' : Option AV → Mm → Prop} {H : Heap} {locs : List Loc} {Ls : Array Slot} {g : List Value} {sz : Nat} {a0 : Array Value} (hO : KOk P Q K cc own nL d ret) (hS : va_S K.A K.s.heap H locs) (hP : va_P K.D vwCl (wld K.P K.q K.ca μ) H) (hl : lvk K.q Ls ls.length ls) (hsz : sz = H.size)
    (hr : va_Run K.p K.l K.e K.R K.s K.m K.args K.below K.meth K.c H locs 0 0 0 0 (F0 K.m pc Ls g) (st.map (cv K.q)) (CQ K.P K.q K.ca K.D (va_A (wld K.P K.q K.ca μ) sz) Q' a0) (va_A (wld K.P K.q K.ca μ) sz))
    (kk : ∀ r μ', Q' r μ' → AW K (pc + 3) ls (r.toList ++ st) μ') : W K.p K.l K.e K.R K.s K.m K.args K.below K.meth K.c H locs 0 0 (MQ K.below (CQ K.P K.q K.ca K.D K.A K.Q) K.args K.s 0 0 K.A) (F0 K.m pc Ls g) := by
  have hA : ∀ q, va_A (wld K.P K.q K.ca μ) sz q → K.A q := by
    intro q h
    rcases h with ⟨k, x, hk⟩ | h
    · exact (hO.2.1.2.1 μ).2 k _ hk
    · exact hO.2.1.2.2.1 q (Nat.le_trans hS.1 (by rw [← hsz]; exact h))
  intro T hT X
  obtain ⟨v, st₀, t, T', L, h0, X', hL, e1, e2, ⟨⟨r, μ', hv, hq, hP'⟩, hz, hk⟩, stp⟩ := hr T hT X
  cases hv
  rw [h0] at hz hk
  have hS' : va_S K.A K.s.heap T'.heap (locs ++ L) := ⟨Nat.le_trans hS.1 (by rw [e1]; exact hz), fun q h1 h2 => by rw [e1, hk q (Nat.lt_of_lt_of_le h1 hS.1) (fun z => h2 (hA q z))]; exact hS.2.1 q h1 h2, fun q hq => by
      rcases List.mem_append.mp hq with h | h
      · exact hS.2.2 q h
      · exact hA _ (hL q h)⟩
  have hg : (r.map (cv K.q)).toList ++ st.map (cv K.q) = (r.toList ++ st).map (cv K.q) := by cases r <;> rfl
  obtain ⟨t2, a1, b1⟩ := kk r μ' hq T'.heap (locs ++ L) Ls (by rw [e1]; exact hP') hS' hl T' rfl X'
  rw [← hg] at a1
  exact ⟨t2, stp t2 a1, b1⟩
/-- what a callee finds -/
theorem aw_pre {as : List AV} {H : Heap} {locs : List Loc} (hO : KOk P Q K cc own nL d ret) (hS : va_S K.A K.s.heap H locs) (hP : va_P K.D vwCl (wld K.P K.q K.ca μ) H) : ∀ U : State, U.heap = H → K.s.WarmedH U.vm → va_Pc (as.map (cv K.q)) (fun U => U.heap.size = H.size ∧ va_P K.D vwCl (wld K.P K.q K.ca μ) U.heap ∧ va_K K.D vwCl (wty K.P K.ca) U ∧ va_D (fun a => K.b ≤ a) (wld K.P K.q K.ca μ) ∧ K.P.2.2 K.q (fun a => K.b ≤ a) U ∧ K.b ≤ H.size ∧ NW U) (as.map (cv K.q)).toArray U := by
  intro U hU hW
  refine ⟨rfl, by rw [hU], by rw [hU]; exact hP, va_K.moved hW.alike hO.2.1.1, ⟨(hO.2.1.2.1 μ).1, fun k x hk => hO.2.2.2.2.2.1 _ ((hO.2.1.2.1 μ).2 k x hk)⟩, ?_, Nat.le_trans hO.2.2.2.2.1 hS.1, NW.warm hW hO.2.2.2.2.2.2.2.2⟩
  refine hO.2.2.1 K.q _ K.s U (Or.inr hW) (fun a h1 h2 => ?_) hO.2.2.2.1
  rw [hU]
  exact hS.2.1 a h1 (fun z => h2 (hO.2.2.2.2.2.1 a z))
theorem ct_blind {P : LPk} (hX : XOk P) {as : List AV} {μ : Mm} {q : Nat → Nat} {ca : Nat → ClassId} {D : va_G} {sz b : Nat} : FrameBlind (va_Pc (as.map (cv q)) (fun U => U.heap.size = sz ∧ va_P D vwCl (wld P q ca μ) U.heap ∧ va_K D vwCl (wty P ca) U ∧ va_D (fun a => b ≤ a) (wld P q ca μ) ∧ P.2.2 q (fun a => b ≤ a) U ∧ b ≤ sz ∧ NW U)) := by
  intro a U g mk h
  obtain ⟨h1, h2, h3, h4, h5, h6, h7, h8⟩ := h
  exact ⟨h1, h2, h3, va_K.moved (u := U) (U := U.calling g mk a) (Vm.Alike.refl U.vm) h4, h5, hX q _ U (U.calling g mk a) (Or.inl rfl) (fun _ _ _ => rfl) h6, h7, NW.same (u := U) (U := U.calling g mk a) rfl h8⟩
theorem aw_callS {d' ix na maxL : Nat} {y : MethodName} {bytes : ByteArray} {ret' : Option FieldType} {as : List AV} {Q' : Option AV → Mm → Prop} (hO : KOk P Q K cc own nL d ret) (hd : decode cc pc = .ok (.invokestatic ix, 3)) (hn : pc + 3 = n) (hw : Cond.methodLink own ix y ∈ lw_g) (hy : CkS y bytes maxL ret' na) (hC : Ct P d' y bytes maxL ret' as μ Q') (hdd : d' + 1 ≤ d) (hna : as.length = na) (hnl : ls.length = nL) (hst : (st.map fun v => (cv (fun _ => 0) v).category).sum ≤ 8)
    (kk : ∀ r μ', Q' r μ' → AW K n ls (r.toList ++ st) μ') : AW K pc ls (as.reverse ++ st) μ := by
  subst hn
  have eP := hO.2.2.2.2.2.2.1
  subst eP
  intro H locs Ls hP hS hl
  have hts := hO.1.2.2.2.2
  have hst2 : ((st.map (cv K.q)).map fun v => v.category).sum ≤ 8 := by
    rw [List.map_map]
    refine Nat.le_trans (Nat.le_of_eq ?_) hst
    congr 1
    apply List.map_congr_left
    intro v _
    rcases v with a | x | _ | k <;> rfl
  have cw : CallB K.R K.s K.args own ix y bytes maxL ret' (.code y bytes maxL ret' :: lw_g) (rmd d') 0 0 na ∧ (Cond.static y).before K.args K.s = true := ⟨callB_of na hts (lw_goodc hy.1.1) rfl rfl rfl (hts _ hy.1.2.1) (hts _ hw) hy.1.2.2.1 (by rw [hO.2.1.2.2.2.1]; exact rmd_in hdd hy.1.2.2.2), hts _ hy.2⟩
  refine aw_back (sz := H.size) hO hS hP hl rfl (va_runS (As := as.map (cv K.q)) (rest := st.map (cv K.q)) ⟨hO.1.1, hO.1.2.1, hO.1.2.2.1, hO.1.2.2.2.1, hts⟩ (hC K.l K.q K.ca K.D H.size K.b) cw ⟨ct_blind hO.2.2.1, aw_pre hO hS hP⟩ rfl (by rw [List.length_map]; exact hna) (hl.1.trans hnl) (by simp [List.map_append, List.map_reverse]) (by show 2 * 0 + _ ≤ 8; omega) hd ⟨Nat.zero_le _, Nat.zero_le _⟩) kk
theorem aw_callSN {d' ix na maxL : Nat} {y : MethodName} {host : String} {bytes : ByteArray} {ret' : Option FieldType} {as : List AV} {Q' : Option AV → Mm → Prop} (hO : KOk P Q K cc own nL d ret) (hd : decode cc pc = .ok (.invokestatic ix, 3)) (hn : pc + 3 = n) (hw : Cond.methodLinkNest own ix y host ∈ lw_n) (hy : CkS y bytes maxL ret' na) (hC : Ct P d' y bytes maxL ret' as μ Q') (hdd : d' + 1 ≤ d) (hna : as.length = na) (hnl : ls.length = nL) (hst : (st.map fun v => (cv (fun _ => 0) v).category).sum ≤ 8)
    (kk : ∀ r μ', Q' r μ' → AW K n ls (r.toList ++ st) μ') : AW K pc ls (as.reverse ++ st) μ := by
  subst hn
  have eP := hO.2.2.2.2.2.2.1
  subst eP
  intro H locs Ls hP hS hl
  have hts := hO.1.2.2.2.2
  have hst2 : ((st.map (cv K.q)).map fun v => v.category).sum ≤ 8 := by
    rw [List.map_map]
    refine Nat.le_trans (Nat.le_of_eq ?_) hst
    congr 1
    apply List.map_congr_left
    intro v _
    rcases v with a | x | _ | k <;> rfl
  have cw : va_CN K.R K.s K.args own ix y host bytes maxL ret' (.code y bytes maxL ret' :: lw_g) (rmd d') 0 0 na ∧ (Cond.static y).before K.args K.s = true ∧ True := ⟨va_cnB na hts (lw_goodc hy.1.1) rfl rfl rfl (hO.2.2.2.2.2.2.2.2 _ hw) (hts _ hy.1.2.1) hy.1.2.2.1 (by rw [hO.2.1.2.2.2.1]; exact rmd_in hdd hy.1.2.2.2), hts _ hy.2, trivial⟩
  refine aw_back (sz := H.size) hO hS hP hl rfl (va_runSN (As := as.map (cv K.q)) (rest := st.map (cv K.q)) ⟨hO.1.1, hO.1.2.1, hO.1.2.2.1, hO.1.2.2.2.1, hts⟩ (hC K.l K.q K.ca K.D H.size K.b) cw ⟨ct_blind hO.2.2.1, aw_pre hO hS hP⟩ rfl (by rw [List.length_map]; exact hna) (hl.1.trans hnl) (by simp [List.map_append, List.map_reverse]) (by show 2 * 0 + _ ≤ 8; omega) hd ⟨Nat.zero_le _, Nat.zero_le _⟩) kk
theorem aw_callV {d' ix na maxL k ci N : Nat} {y : MethodName} {bytes : ByteArray} {ret' : Option FieldType} {T : u_T} {fs : List Nat} {as : List AV} {Q' : Option AV → Mm → Prop} (hO : KOk P Q K cc own nL d ret) (hd : decode cc pc = .ok (.invokevirtual ix, 3)) (hn : pc + 3 = n) (hw : Cond.methodLink own ix y ∈ lw_g) (hy : CkV y bytes maxL ret' na) (hcl : vwCl[ci]? = some (y.cls, T, N)) (hk : k < P.2.1) (hL : P.1 k = .inr (.inr (ci, fs))) (hC : Ct P d' y bytes maxL ret' (vR k :: as) μ Q') (hdd : d' + 1 ≤ d) (hna : as.length = na) (hnl : ls.length = nL) (hst : (st.map fun v => (cv (fun _ => 0) v).category).sum ≤ 8)
    (kk : ∀ r μ', Q' r μ' → AW K n ls (r.toList ++ st) μ') : AW K pc ls (as.reverse ++ vR k :: st) μ := by
  subst hn
  have eP := hO.2.2.2.2.2.2.1
  subst eP
  intro H locs Ls hP hS hl
  have hts := hO.1.2.2.2.2
  have hst2 : ((st.map (cv K.q)).map fun v => v.category).sum ≤ 8 := by
    rw [List.map_map]
    refine Nat.le_trans (Nat.le_of_eq ?_) hst
    congr 1
    apply List.map_congr_left
    intro v _
    rcases v with a | x | _ | k <;> rfl
  have he := wld_get (P := K.P) (q := K.q) (ca := K.ca) (μ := μ) hk
  rw [cellE_obj hL] at he
  have cw : CallW K.R K.s K.args own y.cls ix y bytes maxL ret' (.code y bytes maxL ret' :: lw_g) (rmd d') 0 0 na := ⟨callB_of na hts (lw_goodc hy.1.1) rfl rfl rfl (hts _ hy.1.2.1) (hts _ hw) hy.1.2.2.1 (by rw [hO.2.1.2.2.2.1]; exact rmd_in hdd hy.1.2.2.2), hts _ hy.2.1, hts _ hy.2.2⟩
  refine aw_back (sz := H.size) hO hS hP hl rfl (va_runV (As := as.map (cv K.q)) (rest := st.map (cv K.q)) (b := K.q k) ⟨hO.1.1, hO.1.2.1, hO.1.2.2.1, hO.1.2.2.2.1, hts⟩ (hC K.l K.q K.ca K.D H.size K.b) cw ⟨ct_blind hO.2.2.1, va_recv hO.2.1.1 hP hcl he, aw_pre (as := vR k :: as) hO hS hP⟩ rfl (by rw [List.length_map]; exact hna) (hl.1.trans hnl) (by simp [List.map_append, List.map_reverse, cv]) (by show 2 * 0 + _ ≤ 8; omega) hd ⟨Nat.zero_le _, Nat.zero_le _⟩) kk
end
