/-! ## contracts of an answer that is a number, the memory staying -/
def CtI (P : LPk) (d : Nat) (y : MethodName) (cc : ByteArray) (maxL : Nat) (ret : Option FieldType) (as : List AV) (μ : Mm) (v : Int) : Prop := Ct P d y cc maxL ret as μ (fun r m => r = some (vI v) ∧ m = μ)
set_option maxRecDepth 100000 in
theorem mth_max : Cond.static Lib.Math.max.name ∈ lw_g ∧ Cond.initialized "java/lang/Math" ∈ lw_g ∧ Cond.code Lib.Math.max.name Lib.Math.max.code 2 (some .int) ∈ lw_g := ⟨(lw_t2 165 rfl rfl), (lw_t1 18 rfl rfl), (lw_t2 166 rfl rfl)⟩
set_option maxRecDepth 100000 in
theorem mth_min : Cond.static Lib.Math.min.name ∈ lw_g ∧ Cond.initialized "java/lang/Math" ∈ lw_g ∧ Cond.code Lib.Math.min.name Lib.Math.min.code 2 (some .int) ∈ lw_g := ⟨(lw_t2 168 rfl rfl), (lw_t1 18 rfl rfl), (lw_t2 169 rfl rfl)⟩
set_option maxRecDepth 100000 in
theorem mth_abs : Cond.static Lib.Math.abs.name ∈ lw_g ∧ Cond.initialized "java/lang/Math" ∈ lw_g ∧ Cond.code Lib.Math.abs.name Lib.Math.abs.code 1 (some .int) ∈ lw_g := ⟨(lw_t3 141 rfl rfl), (lw_t1 18 rfl rfl), (lw_t3 142 rfl rfl)⟩
set_option maxRecDepth 100000 in
theorem mth_lmax : Cond.static Lib.MathLoose.max_long.x ∈ lw_g ∧ Cond.initialized "java/lang/Math" ∈ lw_g ∧ Cond.code Lib.MathLoose.max_long.x Lib.MathLoose.max_long.code 4 (some .long) ∈ lw_g := ⟨(lw_t7 136 rfl rfl), (lw_t1 18 rfl rfl), (lw_t7 137 rfl rfl)⟩
set_option maxRecDepth 100000 in
theorem mth_lmin : Cond.static Lib.MathLoose.min_long.x ∈ lw_g ∧ Cond.initialized "java/lang/Math" ∈ lw_g ∧ Cond.code Lib.MathLoose.min_long.x Lib.MathLoose.min_long.code 4 (some .long) ∈ lw_g := ⟨(lw_t7 133 rfl rfl), (lw_t1 18 rfl rfl), (lw_t7 134 rfl rfl)⟩
/-- an answer that is a number, and what holds of it and of the memory behind it -/
def CtE (P : LPk) (d : Nat) (y : MethodName) (cc : ByteArray) (maxL : Nat) (ret : Option FieldType) (as : List AV) (μ : Mm) (R : Int → Mm → Prop) : Prop := Ct P d y cc maxL ret as μ (fun r m => ∃ v : Int, r = some (vI v) ∧ R v m)
/-- no answer -/
def CtV (P : LPk) (d : Nat) (y : MethodName) (cc : ByteArray) (maxL : Nat) (ret : Option FieldType) (as : List AV) (μ : Mm) (R : Mm → Prop) : Prop := Ct P d y cc maxL ret as μ (fun r m => r = none ∧ R m)
/-- an answer that is a long -/
def CtL (P : LPk) (d : Nat) (y : MethodName) (cc : ByteArray) (maxL : Nat) (ret : Option FieldType) (as : List AV) (μ : Mm) (R : Int → Mm → Prop) : Prop := Ct P d y cc maxL ret as μ (fun r m => ∃ v : Int, r = some (vL v) ∧ R v m)
theorem CtI.toE {P : LPk} {d : Nat} {y : MethodName} {cc : ByteArray} {maxL : Nat} {ret : Option FieldType} {as : List AV} {μ : Mm} {v : Int} (h : CtI P d y cc maxL ret as μ v) : Ct P d y cc maxL ret as μ (fun r m => r = some (vI v) ∧ m = μ) := h
section
variable {P : LPk} {Q : Option AV → Mm → Prop} {K : KT} {cc : ByteArray} {own : String} {nL d : Nat} {ret : Option FieldType} {pc n : Nat} {ls : List (Option AV)} {st : List AV} {μ : Mm}
theorem aw_callSI {d' ix na maxL : Nat} {y : MethodName} {bytes : ByteArray} {ret' : Option FieldType} {as : List AV} {v : Int} {st0 : List AV} (hO : KOk P Q K cc own nL d ret) (hd : decode cc pc = .ok (.invokestatic ix, 3)) (hn : pc + 3 = n) (hw : Cond.methodLink own ix y ∈ lw_g) (hy : CkS y bytes maxL ret' na) (hC : CtI P d' y bytes maxL ret' as μ v) (hdd : d' + 1 ≤ d) (hs : as.reverse ++ st = st0) (hna : as.length = na) (hnl : ls.length = nL) (hst : (st.map fun v => (cv (fun _ => 0) v).category).sum ≤ 8)
    (kk : AW K n ls (vI v :: st) μ) : AW K pc ls st0 μ := by
  subst hs
  exact aw_callS hO hd hn hw hy hC hdd hna hnl hst (fun r m h => by obtain ⟨rfl, rfl⟩ := h; exact kk)
theorem aw_callSNI {d' ix na maxL : Nat} {y : MethodName} {host : String} {bytes : ByteArray} {ret' : Option FieldType} {as : List AV} {v : Int} {st0 : List AV} (hO : KOk P Q K cc own nL d ret) (hd : decode cc pc = .ok (.invokestatic ix, 3)) (hn : pc + 3 = n) (hw : Cond.methodLinkNest own ix y host ∈ lw_n) (hy : CkS y bytes maxL ret' na) (hC : CtI P d' y bytes maxL ret' as μ v) (hdd : d' + 1 ≤ d) (hs : as.reverse ++ st = st0) (hna : as.length = na) (hnl : ls.length = nL) (hst : (st.map fun v => (cv (fun _ => 0) v).category).sum ≤ 8)
    (kk : AW K n ls (vI v :: st) μ) : AW K pc ls st0 μ := by
  subst hs
  exact aw_callSN hO hd hn hw hy hC hdd hna hnl hst (fun r m h => by obtain ⟨rfl, rfl⟩ := h; exact kk)
theorem aw_callVI {d' ix na maxL k ci N : Nat} {y : MethodName} {bytes : ByteArray} {ret' : Option FieldType} {T : u_T} {fs : List Nat} {as : List AV} {v : Int} {st0 : List AV} (hO : KOk P Q K cc own nL d ret) (hd : decode cc pc = .ok (.invokevirtual ix, 3)) (hn : pc + 3 = n) (hw : Cond.methodLink own ix y ∈ lw_g) (hy : CkV y bytes maxL ret' na) (hcl : vwCl[ci]? = some (y.cls, T, N)) (hk : k < P.2.1) (hL : P.1 k = .inr (.inr (ci, fs))) (hC : CtI P d' y bytes maxL ret' (vR k :: as) μ v) (hdd : d' + 1 ≤ d) (hs : as.reverse ++ vR k :: st = st0) (hna : as.length = na) (hnl : ls.length = nL) (hst : (st.map fun v => (cv (fun _ => 0) v).category).sum ≤ 8)
    (kk : AW K n ls (vI v :: st) μ) : AW K pc ls st0 μ := by
  subst hs
  exact aw_callV hO hd hn hw hy hcl hk hL hC hdd hna hnl hst (fun r m h => by obtain ⟨rfl, rfl⟩ := h; exact kk)
theorem aw_callSE {d' ix na maxL : Nat} {y : MethodName} {bytes : ByteArray} {ret' : Option FieldType} {as : List AV} {st0 : List AV} {R : Int → Mm → Prop} (hO : KOk P Q K cc own nL d ret) (hd : decode cc pc = .ok (.invokestatic ix, 3)) (hn : pc + 3 = n) (hw : Cond.methodLink own ix y ∈ lw_g) (hy : CkS y bytes maxL ret' na) (hC : CtE P d' y bytes maxL ret' as μ R) (hdd : d' + 1 ≤ d) (hs : as.reverse ++ st = st0) (hna : as.length = na) (hnl : ls.length = nL) (hst : (st.map fun v => (cv (fun _ => 0) v).category).sum ≤ 8)
    (kk : ∀ v m, R v m → AW K n ls (vI v :: st) m) : AW K pc ls st0 μ := by
  subst hs
  exact aw_callS hO hd hn hw hy hC hdd hna hnl hst (fun r m h => by obtain ⟨v, rfl, h⟩ := h; exact kk v m h)
theorem aw_callSV {d' ix na maxL : Nat} {y : MethodName} {bytes : ByteArray} {ret' : Option FieldType} {as : List AV} {st0 : List AV} {R : Mm → Prop} (hO : KOk P Q K cc own nL d ret) (hd : decode cc pc = .ok (.invokestatic ix, 3)) (hn : pc + 3 = n) (hw : Cond.methodLink own ix y ∈ lw_g) (hy : CkS y bytes maxL ret' na) (hC : CtV P d' y bytes maxL ret' as μ R) (hdd : d' + 1 ≤ d) (hs : as.reverse ++ st = st0) (hna : as.length = na) (hnl : ls.length = nL) (hst : (st.map fun v => (cv (fun _ => 0) v).category).sum ≤ 8)
    (kk : ∀ m, R m → AW K n ls st m) : AW K pc ls st0 μ := by
  subst hs
  exact aw_callS hO hd hn hw hy hC hdd hna hnl hst (fun r m h => by obtain ⟨rfl, h⟩ := h; exact kk m h)
theorem aw_callSL {d' ix na maxL : Nat} {y : MethodName} {bytes : ByteArray} {ret' : Option FieldType} {as : List AV} {st0 : List AV} {R : Int → Mm → Prop} (hO : KOk P Q K cc own nL d ret) (hd : decode cc pc = .ok (.invokestatic ix, 3)) (hn : pc + 3 = n) (hw : Cond.methodLink own ix y ∈ lw_g) (hy : CkS y bytes maxL ret' na) (hC : CtL P d' y bytes maxL ret' as μ R) (hdd : d' + 1 ≤ d) (hs : as.reverse ++ st = st0) (hna : as.length = na) (hnl : ls.length = nL) (hst : (st.map fun v => (cv (fun _ => 0) v).category).sum ≤ 8)
    (kk : ∀ v m, R v m → AW K n ls (vL v :: st) m) : AW K pc ls st0 μ := by
  subst hs
  exact aw_callS hO hd hn hw hy hC hdd hna hnl hst (fun r m h => by obtain ⟨v, rfl, h⟩ := h; exact kk v m h)
theorem aw_callSNE {d' ix na maxL : Nat} {y : MethodName} {host : String} {bytes : ByteArray} {ret' : Option FieldType} {as : List AV} {st0 : List AV} {R : Int → Mm → Prop} (hO : KOk P Q K cc own nL d ret) (hd : decode cc pc = .ok (.invokestatic ix, 3)) (hn : pc + 3 = n) (hw : Cond.methodLinkNest own ix y host ∈ lw_n) (hy : CkS y bytes maxL ret' na) (hC : CtE P d' y bytes maxL ret' as μ R) (hdd : d' + 1 ≤ d) (hs : as.reverse ++ st = st0) (hna : as.length = na) (hnl : ls.length = nL) (hst : (st.map fun v => (cv (fun _ => 0) v).category).sum ≤ 8)
    (kk : ∀ v m, R v m → AW K n ls (vI v :: st) m) : AW K pc ls st0 μ := by
  subst hs
  exact aw_callSN hO hd hn hw hy hC hdd hna hnl hst (fun r m h => by obtain ⟨v, rfl, h⟩ := h; exact kk v m h)
theorem aw_callSNV {d' ix na maxL : Nat} {y : MethodName} {host : String} {bytes : ByteArray} {ret' : Option FieldType} {as : List AV} {st0 : List AV} {R : Mm → Prop} (hO : KOk P Q K cc own nL d ret) (hd : decode cc pc = .ok (.invokestatic ix, 3)) (hn : pc + 3 = n) (hw : Cond.methodLinkNest own ix y host ∈ lw_n) (hy : CkS y bytes maxL ret' na) (hC : CtV P d' y bytes maxL ret' as μ R) (hdd : d' + 1 ≤ d) (hs : as.reverse ++ st = st0) (hna : as.length = na) (hnl : ls.length = nL) (hst : (st.map fun v => (cv (fun _ => 0) v).category).sum ≤ 8)
    (kk : ∀ m, R m → AW K n ls st m) : AW K pc ls st0 μ := by
  subst hs
  exact aw_callSN hO hd hn hw hy hC hdd hna hnl hst (fun r m h => by obtain ⟨rfl, h⟩ := h; exact kk m h)
theorem aw_callSNL {d' ix na maxL : Nat} {y : MethodName} {host : String} {bytes : ByteArray} {ret' : Option FieldType} {as : List AV} {st0 : List AV} {R : Int → Mm → Prop} (hO : KOk P Q K cc own nL d ret) (hd : decode cc pc = .ok (.invokestatic ix, 3)) (hn : pc + 3 = n) (hw : Cond.methodLinkNest own ix y host ∈ lw_n) (hy : CkS y bytes maxL ret' na) (hC : CtL P d' y bytes maxL ret' as μ R) (hdd : d' + 1 ≤ d) (hs : as.reverse ++ st = st0) (hna : as.length = na) (hnl : ls.length = nL) (hst : (st.map fun v => (cv (fun _ => 0) v).category).sum ≤ 8)
    (kk : ∀ v m, R v m → AW K n ls (vL v :: st) m) : AW K pc ls st0 μ := by
  subst hs
  exact aw_callSN hO hd hn hw hy hC hdd hna hnl hst (fun r m h => by obtain ⟨v, rfl, h⟩ := h; exact kk v m h)
theorem aw_callVE {d' ix na maxL k ci N : Nat} {y : MethodName} {bytes : ByteArray} {ret' : Option FieldType} {T : u_T} {fs : List Nat} {as : List AV} {st0 : List AV} {R : Int → Mm → Prop} (hO : KOk P Q K cc own nL d ret) (hd : decode cc pc = .ok (.invokevirtual ix, 3)) (hn : pc + 3 = n) (hw : Cond.methodLink own ix y ∈ lw_g) (hy : CkV y bytes maxL ret' na) (hcl : vwCl[ci]? = some (y.cls, T, N)) (hk : k < P.2.1) (hL : P.1 k = .inr (.inr (ci, fs))) (hC : CtE P d' y bytes maxL ret' (vR k :: as) μ R) (hdd : d' + 1 ≤ d) (hs : as.reverse ++ vR k :: st = st0) (hna : as.length = na) (hnl : ls.length = nL) (hst : (st.map fun v => (cv (fun _ => 0) v).category).sum ≤ 8)
    (kk : ∀ v m, R v m → AW K n ls (vI v :: st) m) : AW K pc ls st0 μ := by
  subst hs
  exact aw_callV hO hd hn hw hy hcl hk hL hC hdd hna hnl hst (fun r m h => by obtain ⟨v, rfl, h⟩ := h; exact kk v m h)
theorem aw_callVV {d' ix na maxL k ci N : Nat} {y : MethodName} {bytes : ByteArray} {ret' : Option FieldType} {T : u_T} {fs : List Nat} {as : List AV} {st0 : List AV} {R : Mm → Prop} (hO : KOk P Q K cc own nL d ret) (hd : decode cc pc = .ok (.invokevirtual ix, 3)) (hn : pc + 3 = n) (hw : Cond.methodLink own ix y ∈ lw_g) (hy : CkV y bytes maxL ret' na) (hcl : vwCl[ci]? = some (y.cls, T, N)) (hk : k < P.2.1) (hL : P.1 k = .inr (.inr (ci, fs))) (hC : CtV P d' y bytes maxL ret' (vR k :: as) μ R) (hdd : d' + 1 ≤ d) (hs : as.reverse ++ vR k :: st = st0) (hna : as.length = na) (hnl : ls.length = nL) (hst : (st.map fun v => (cv (fun _ => 0) v).category).sum ≤ 8)
    (kk : ∀ m, R m → AW K n ls st m) : AW K pc ls st0 μ := by
  subst hs
  exact aw_callV hO hd hn hw hy hcl hk hL hC hdd hna hnl hst (fun r m h => by obtain ⟨rfl, h⟩ := h; exact kk m h)
theorem aw_callVL {d' ix na maxL k ci N : Nat} {y : MethodName} {bytes : ByteArray} {ret' : Option FieldType} {T : u_T} {fs : List Nat} {as : List AV} {st0 : List AV} {R : Int → Mm → Prop} (hO : KOk P Q K cc own nL d ret) (hd : decode cc pc = .ok (.invokevirtual ix, 3)) (hn : pc + 3 = n) (hw : Cond.methodLink own ix y ∈ lw_g) (hy : CkV y bytes maxL ret' na) (hcl : vwCl[ci]? = some (y.cls, T, N)) (hk : k < P.2.1) (hL : P.1 k = .inr (.inr (ci, fs))) (hC : CtL P d' y bytes maxL ret' (vR k :: as) μ R) (hdd : d' + 1 ≤ d) (hs : as.reverse ++ vR k :: st = st0) (hna : as.length = na) (hnl : ls.length = nL) (hst : (st.map fun v => (cv (fun _ => 0) v).category).sum ≤ 8)
    (kk : ∀ v m, R v m → AW K n ls (vL v :: st) m) : AW K pc ls st0 μ := by
  subst hs
  exact aw_callV hO hd hn hw hy hcl hk hL hC hdd hna hnl hst (fun r m h => by obtain ⟨v, rfl, h⟩ := h; exact kk v m h)
end
