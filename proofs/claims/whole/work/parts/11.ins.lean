/-! ## the rows of one instruction each -/
theorem bip_eq {a : Int} (h1 : -128 ≤ a) (h2 : a ≤ 127) : (Int8.ofInt a).toInt32 = iI a := by
  rw [← Int32.toInt_inj, Int8.toInt_toInt32, toInt_iI ⟨by omega, by omega⟩]
  exact Int8.toInt_ofInt_of_le h1 (by omega)
theorem sip_eq {a : Int} (h1 : -32768 ≤ a) (h2 : a ≤ 32767) : (Int16.ofInt a).toInt32 = iI a := by
  rw [← Int32.toInt_inj, Int16.toInt_toInt32, toInt_iI ⟨by omega, by omega⟩]
  exact Int16.toInt_ofInt_of_le h1 (by omega)
def bAnd (a b : Int) : Int := (iI a &&& iI b).toInt
def bOr (a b : Int) : Int := (iI a ||| iI b).toInt
def bXor (a b : Int) : Int := (iI a ^^^ iI b).toInt
def bShl (a b : Int) : Int := (iI a <<< (iI b &&& 31)).toInt
def bShr (a b : Int) : Int := (iI a >>> (iI b &&& 31)).toInt
def bUsh (a b : Int) : Int := ((iI a).toUInt32 >>> ((iI b).toUInt32 &&& Int32.toUInt32 31)).toInt32.toInt
theorem bAnd_iI (a b : Int) : iI (bAnd a b) = iI a &&& iI b := iI_toInt _
theorem bOr_iI (a b : Int) : iI (bOr a b) = iI a ||| iI b := iI_toInt _
theorem bXor_iI (a b : Int) : iI (bXor a b) = iI a ^^^ iI b := iI_toInt _
theorem bShl_iI (a b : Int) : iI (bShl a b) = iI a <<< (iI b &&& 31) := iI_toInt _
theorem bShr_iI (a b : Int) : iI (bShr a b) = iI a >>> (iI b &&& 31) := iI_toInt _
theorem bUsh_iI (a b : Int) : iI (bUsh a b) = ((iI a).toUInt32 >>> ((iI b).toUInt32 &&& Int32.toUInt32 31)).toInt32 := iI_toInt _
theorem bAnd_R (a b : Int) : InR (bAnd a b) := InR.of _
theorem bOr_R (a b : Int) : InR (bOr a b) := InR.of _
theorem bXor_R (a b : Int) : InR (bXor a b) := InR.of _
theorem bShl_R (a b : Int) : InR (bShl a b) := InR.of _
theorem bShr_R (a b : Int) : InR (bShr a b) := InR.of _
theorem bUsh_R (a b : Int) : InR (bUsh a b) := InR.of _
theorem iI_ne0 {b : Int} (h : 0 < b) (h2 : b ≤ 2147483647) : ¬ iI b = 0 := fun e => by
  have := (iI_eq (a := b) (b := 0) ⟨by omega, h2⟩ ⟨by omega, by omega⟩).mp e
  omega
theorem iI_div {a b : Int} (ha : 0 ≤ a) (ha2 : a ≤ 2147483647) (hb : 0 < b) (hb2 : b ≤ 2147483647) : iI a / iI b = iI (a / b) := by
  rw [← Int.tdiv_eq_ediv_of_nonneg ha]
  unfold iI
  rw [Int32.ofInt_tdiv]
  · show -2147483648 ≤ a; omega
  · show a ≤ 2147483647; omega
  · show -2147483648 ≤ b; omega
  · show b ≤ 2147483647; omega
theorem iI_rem {a b : Int} (ha : 0 ≤ a) (ha2 : a ≤ 2147483647) (hb : 0 < b) (hb2 : b ≤ 2147483647) : iI a - iI a / iI b * iI b = iI (a % b) := by
  rw [iI_div ha ha2 hb hb2, iI_mul, iI_sub]
  congr 1
  rw [Int.emod_def, Int.mul_comm]
theorem i2c_iI {a : Int} (ha : 0 ≤ a) (ha2 : a < 65536) : ((iI a).toUInt32 % 65536).toInt32 = iI a := by
  obtain ⟨m, rfl⟩ : ∃ m : Nat, a = m := ⟨a.toNat, by omega⟩
  have e : iI (m : Int) = nI m := Int32.ofInt_eq_ofNat
  rw [e, pk_char, pk_tn (by omega)]
  congr 1
  omega
theorem lI_add (a b : Int) : lI a + lI b = lI (a + b) := (Int64.ofInt_add a b).symm
theorem lI_sub (a b : Int) : lI a - lI b = lI (a - b) := (Int64.ofInt_sub a b).symm
theorem lI_mul (a b : Int) : lI a * lI b = lI (a * b) := (Int64.ofInt_mul a b).symm
theorem lI_toInt (x : Int64) : lI x.toInt = x := Int64.ofInt_toInt x
theorem toInt_lI {a : Int} (h : InL a) : (lI a).toInt = a := Int64.toInt_ofInt_of_le h.1 (by have := h.2; omega)
theorem InL.of (x : Int64) : InL x.toInt := ⟨Int64.le_toInt x, by have := Int64.toInt_lt x; omega⟩
theorem lI_lt {a b : Int} (ha : InL a) (hb : InL b) : lI a < lI b ↔ a < b := by rw [Int64.lt_iff_toInt_lt, toInt_lI ha, toInt_lI hb]
theorem lI_eq {a b : Int} (ha : InL a) (hb : InL b) : lI a = lI b ↔ a = b := by rw [← Int64.toInt_inj, toInt_lI ha, toInt_lI hb]
theorem lI_ne0 {b : Int} (h : InL b) (h0 : b ≠ 0) : ¬ lI b = 0 := fun e => h0 ((lI_eq (b := 0) h ⟨by omega, by omega⟩).mp e)
theorem lI_div {a b : Int} (ha : InL a) (hb : InL b) : lI a / lI b = lI (a.tdiv b) := by
  unfold lI
  rw [Int64.ofInt_tdiv]
  · exact ha.1
  · exact ha.2
  · exact hb.1
  · exact hb.2
theorem lI_rem {a b : Int} (ha : InL a) (hb : InL b) : lI a - lI a / lI b * lI b = lI (a.tmod b) := by
  rw [lI_div ha hb, lI_mul, lI_sub]
  congr 1
  rw [Int.tmod_def, Int.mul_comm]
theorem i2l_iI {a : Int} (h : InR a) : (iI a).toInt64 = lI a := by
  rw [← Int64.toInt_inj, Int32.toInt_toInt64, toInt_iI h, toInt_lI ⟨by have := h.1; omega, by have := h.2; omega⟩]
theorem l2i_lI (a : Int) : (lI a).toInt32 = iI a := by
  unfold lI iI
  rw [Int64.toInt32_ofInt]
def sCmp (a b : Int) : Int := if b < a then 1 else if a = b then 0 else -1
theorem lcmp_lI {a b : Int} (ha : InL a) (hb : InL b) : lg_cmp (lI a) (lI b) = iI (sCmp a b) := by
  unfold lg_cmp sCmp
  simp only [gt_iff_lt, lI_lt hb ha, lI_eq ha hb]
  split
  · rfl
  · split <;> rfl
theorem sCmp_R (a b : Int) : InR (sCmp a b) := by
  unfold sCmp InR
  split
  · omega
  · split <;> omega
def lAnd (a b : Int) : Int := (lI a &&& lI b).toInt
def lOr (a b : Int) : Int := (lI a ||| lI b).toInt
def lUsh (a b : Int) : Int := ((lI a).toUInt64 >>> ((iI b).toInt64.toUInt64 &&& Int64.toUInt64 63)).toInt64.toInt
theorem lAnd_lI (a b : Int) : lI (lAnd a b) = lI a &&& lI b := lI_toInt _
theorem lOr_lI (a b : Int) : lI (lOr a b) = lI a ||| lI b := lI_toInt _
theorem lUsh_lI (a b : Int) : lI (lUsh a b) = ((lI a).toUInt64 >>> ((iI b).toInt64.toUInt64 &&& Int64.toUInt64 63)).toInt64 := lI_toInt _
theorem cv_cat1 {q : Nat → Nat} {v : AV} (h : (cv (fun _ => 0) v).category = 1) : (cv q v).category = 1 := by
  rcases v with a | x | _ | k
  · rfl
  · exact absurd h (by decide : ¬ (2 : Nat) = 1)
  · rfl
  · rfl
theorem aw_iconst {P : LPk} {Q : Option AV → Mm → Prop} {K : KT} {cc : ByteArray} {own : String} {nL d : Nat} {ret : Option FieldType} {pc n : Nat} {ls : List (Option AV)} {st : List AV} {μ : Mm} {a : Int} (hO : KOk P Q K cc own nL d ret) (hd : decode cc pc = .ok (.iconst a, 1)) (hn : pc + 1 = n) (kk : AW K n ls (vI a :: st) μ) : AW K pc ls st μ := by
  subst hn
  intro H locs Ls hP hS hl
  exact lv_iconst hO.1.1 hO.1.2.1 hd rfl (kk H locs Ls hP hS hl)
theorem aw_bipush {P : LPk} {Q : Option AV → Mm → Prop} {K : KT} {cc : ByteArray} {own : String} {nL d : Nat} {ret : Option FieldType} {pc n : Nat} {ls : List (Option AV)} {st : List AV} {μ : Mm} {a : Int} (hO : KOk P Q K cc own nL d ret) (hd : decode cc pc = .ok (.bipush a, 2)) (hn : pc + 2 = n) (h1 : -128 ≤ a) (h2 : a ≤ 127) (kk : AW K n ls (vI a :: st) μ) : AW K pc ls st μ := by
  subst hn
  intro H locs Ls hP hS hl
  exact lv_bipush hO.1.1 hO.1.2.1 hd (bip_eq h1 h2) (kk H locs Ls hP hS hl)
theorem aw_sipush {P : LPk} {Q : Option AV → Mm → Prop} {K : KT} {cc : ByteArray} {own : String} {nL d : Nat} {ret : Option FieldType} {pc n : Nat} {ls : List (Option AV)} {st : List AV} {μ : Mm} {a : Int} (hO : KOk P Q K cc own nL d ret) (hd : decode cc pc = .ok (.sipush a, 3)) (hn : pc + 3 = n) (h1 : -32768 ≤ a) (h2 : a ≤ 32767) (kk : AW K n ls (vI a :: st) μ) : AW K pc ls st μ := by
  subst hn
  intro H locs Ls hP hS hl
  exact lv_sipush hO.1.1 hO.1.2.1 hd (sip_eq h1 h2) (kk H locs Ls hP hS hl)
theorem aw_ldc {P : LPk} {Q : Option AV → Mm → Prop} {K : KT} {cc : ByteArray} {own : String} {nL d : Nat} {ret : Option FieldType} {pc n : Nat} {ls : List (Option AV)} {st : List AV} {μ : Mm} {a : Int} {ix : Nat} (hO : KOk P Q K cc own nL d ret) (hd : decode cc pc = .ok (.ldc ix, 2)) (hn : pc + 2 = n) (hw : Cond.constant own ix (iI a) ∈ lw_g) (kk : AW K n ls (vI a :: st) μ) : AW K pc ls st μ := by
  subst hn
  intro H locs Ls hP hS hl
  exact lv_ldc hO.1.1 hO.1.2.1 hO.1.2.2.2.1 (hO.1.2.2.2.2 _ hw) hd (kk H locs Ls hP hS hl)
theorem aw_ldcw {P : LPk} {Q : Option AV → Mm → Prop} {K : KT} {cc : ByteArray} {own : String} {nL d : Nat} {ret : Option FieldType} {pc n : Nat} {ls : List (Option AV)} {st : List AV} {μ : Mm} {a : Int} {ix : Nat} (hO : KOk P Q K cc own nL d ret) (hd : decode cc pc = .ok (.ldc_w ix, 3)) (hn : pc + 3 = n) (hw : Cond.constant own ix (iI a) ∈ lw_g) (kk : AW K n ls (vI a :: st) μ) : AW K pc ls st μ := by
  subst hn
  intro H locs Ls hP hS hl
  exact lv_ldcw hO.1.1 hO.1.2.1 hO.1.2.2.2.1 (hO.1.2.2.2.2 _ hw) hd (kk H locs Ls hP hS hl)
theorem aw_ldc2 {P : LPk} {Q : Option AV → Mm → Prop} {K : KT} {cc : ByteArray} {own : String} {nL d : Nat} {ret : Option FieldType} {pc n : Nat} {ls : List (Option AV)} {st : List AV} {μ : Mm} {a : Int} {ix : Nat} (hO : KOk P Q K cc own nL d ret) (hd : decode cc pc = .ok (.ldc2_w ix, 3)) (hn : pc + 3 = n) (hw : Cond.constantLong own ix (lI a) ∈ lw_g) (kk : AW K n ls (vL a :: st) μ) : AW K pc ls st μ := by
  subst hn
  intro H locs Ls hP hS hl
  exact lv_ldc2 hO.1.1 hO.1.2.1 hO.1.2.2.2.1 (hO.1.2.2.2.2 _ hw) hd (kk H locs Ls hP hS hl)
theorem aw_lconst0 {P : LPk} {Q : Option AV → Mm → Prop} {K : KT} {cc : ByteArray} {own : String} {nL d : Nat} {ret : Option FieldType} {pc n : Nat} {ls : List (Option AV)} {st : List AV} {μ : Mm} (hO : KOk P Q K cc own nL d ret) (hd : decode cc pc = .ok (.lconst 0, 1)) (hn : pc + 1 = n) (kk : AW K n ls (vL 0 :: st) μ) : AW K pc ls st μ := by
  subst hn
  intro H locs Ls hP hS hl
  exact lv_lconst hO.1.1 hO.1.2.1 hd rfl (kk H locs Ls hP hS hl)
theorem aw_lconst1 {P : LPk} {Q : Option AV → Mm → Prop} {K : KT} {cc : ByteArray} {own : String} {nL d : Nat} {ret : Option FieldType} {pc n : Nat} {ls : List (Option AV)} {st : List AV} {μ : Mm} (hO : KOk P Q K cc own nL d ret) (hd : decode cc pc = .ok (.lconst 1, 1)) (hn : pc + 1 = n) (kk : AW K n ls (vL 1 :: st) μ) : AW K pc ls st μ := by
  subst hn
  intro H locs Ls hP hS hl
  exact lv_lconst hO.1.1 hO.1.2.1 hd rfl (kk H locs Ls hP hS hl)
theorem aw_null {P : LPk} {Q : Option AV → Mm → Prop} {K : KT} {cc : ByteArray} {own : String} {nL d : Nat} {ret : Option FieldType} {pc n : Nat} {ls : List (Option AV)} {st : List AV} {μ : Mm} (hO : KOk P Q K cc own nL d ret) (hd : decode cc pc = .ok (.aconst_null, 1)) (hn : pc + 1 = n) (kk : AW K n ls (vN :: st) μ) : AW K pc ls st μ := by
  subst hn
  intro H locs Ls hP hS hl
  exact lv_null hO.1.1 hO.1.2.1 hd (kk H locs Ls hP hS hl)
theorem aw_iload_n {P : LPk} {Q : Option AV → Mm → Prop} {K : KT} {cc : ByteArray} {own : String} {nL d : Nat} {ret : Option FieldType} {pc n : Nat} {ls : List (Option AV)} {st : List AV} {μ : Mm} {k : Fin 4} {a : Int} (hO : KOk P Q K cc own nL d ret) (hd : decode cc pc = .ok (.iload_n k, 1)) (hn : pc + 1 = n) (hv : ls[k.val]? = some (some (vI a))) (kk : AW K n ls (vI a :: st) μ) : AW K pc ls st μ := by
  subst hn
  intro H locs Ls hP hS hl
  exact lv_iload_n hO.1.1 hO.1.2.1 hd rfl (hl.2.2 _ _ hv) (kk H locs Ls hP hS hl)
theorem aw_iload {P : LPk} {Q : Option AV → Mm → Prop} {K : KT} {cc : ByteArray} {own : String} {nL d : Nat} {ret : Option FieldType} {pc n : Nat} {ls : List (Option AV)} {st : List AV} {μ : Mm} {i : Nat} {a : Int} (hO : KOk P Q K cc own nL d ret) (hd : decode cc pc = .ok (.iload i, 2)) (hn : pc + 2 = n) (hv : ls[i]? = some (some (vI a))) (kk : AW K n ls (vI a :: st) μ) : AW K pc ls st μ := by
  subst hn
  intro H locs Ls hP hS hl
  exact lv_iload hO.1.1 hO.1.2.1 hd (hl.2.2 _ _ hv) (kk H locs Ls hP hS hl)
theorem aw_lload_n {P : LPk} {Q : Option AV → Mm → Prop} {K : KT} {cc : ByteArray} {own : String} {nL d : Nat} {ret : Option FieldType} {pc n : Nat} {ls : List (Option AV)} {st : List AV} {μ : Mm} {k : Fin 4} {a : Int} (hO : KOk P Q K cc own nL d ret) (hd : decode cc pc = .ok (.lload_n k, 1)) (hn : pc + 1 = n) (hv : ls[k.val]? = some (some (vL a))) (kk : AW K n ls (vL a :: st) μ) : AW K pc ls st μ := by
  subst hn
  intro H locs Ls hP hS hl
  exact lv_lload_n hO.1.1 hO.1.2.1 hd rfl (hl.2.2 _ _ hv) (kk H locs Ls hP hS hl)
theorem aw_lload {P : LPk} {Q : Option AV → Mm → Prop} {K : KT} {cc : ByteArray} {own : String} {nL d : Nat} {ret : Option FieldType} {pc n : Nat} {ls : List (Option AV)} {st : List AV} {μ : Mm} {i : Nat} {a : Int} (hO : KOk P Q K cc own nL d ret) (hd : decode cc pc = .ok (.lload i, 2)) (hn : pc + 2 = n) (hv : ls[i]? = some (some (vL a))) (kk : AW K n ls (vL a :: st) μ) : AW K pc ls st μ := by
  subst hn
  intro H locs Ls hP hS hl
  exact lv_lload hO.1.1 hO.1.2.1 hd (hl.2.2 _ _ hv) (kk H locs Ls hP hS hl)
theorem aw_aload_n {P : LPk} {Q : Option AV → Mm → Prop} {K : KT} {cc : ByteArray} {own : String} {nL d : Nat} {ret : Option FieldType} {pc n : Nat} {ls : List (Option AV)} {st : List AV} {μ : Mm} {k : Fin 4} {a : Nat} (hO : KOk P Q K cc own nL d ret) (hd : decode cc pc = .ok (.aload_n k, 1)) (hn : pc + 1 = n) (hv : ls[k.val]? = some (some (vR a))) (kk : AW K n ls (vR a :: st) μ) : AW K pc ls st μ := by
  subst hn
  intro H locs Ls hP hS hl
  exact lv_aload_n hO.1.1 hO.1.2.1 hd rfl (hl.2.2 _ _ hv) (kk H locs Ls hP hS hl)
theorem aw_aload {P : LPk} {Q : Option AV → Mm → Prop} {K : KT} {cc : ByteArray} {own : String} {nL d : Nat} {ret : Option FieldType} {pc n : Nat} {ls : List (Option AV)} {st : List AV} {μ : Mm} {i : Nat} {a : Nat} (hO : KOk P Q K cc own nL d ret) (hd : decode cc pc = .ok (.aload i, 2)) (hn : pc + 2 = n) (hv : ls[i]? = some (some (vR a))) (kk : AW K n ls (vR a :: st) μ) : AW K pc ls st μ := by
  subst hn
  intro H locs Ls hP hS hl
  exact lv_aload hO.1.1 hO.1.2.1 hd (hl.2.2 _ _ hv) (kk H locs Ls hP hS hl)
theorem aw_istore_n {P : LPk} {Q : Option AV → Mm → Prop} {K : KT} {cc : ByteArray} {own : String} {nL d : Nat} {ret : Option FieldType} {pc n : Nat} {ls : List (Option AV)} {st : List AV} {μ : Mm} {k : Fin 4} {a : Int} {ls' : List (Option AV)} (hO : KOk P Q K cc own nL d ret) (hd : decode cc pc = .ok (.istore_n k, 1)) (hn : pc + 1 = n) (hi : k.val < ls.length) (hk : okS ls k.val = true) (hls : ls.set k.val (some (vI a)) = ls') (kk : AW K n ls' st μ) : AW K pc ls (vI a :: st) μ := by
  subst hn
  intro H locs Ls hP hS hl
  subst hls
  refine lv_istore_n hO.1.1 hO.1.2.1 hd rfl hl.has hi rfl (fun L' h' => ?_)
  have h2 := lvk_set1 (v := vI a) hk h'
  exact kk H locs L' hP hS (by rw [List.length_set]; exact h2)
theorem aw_istore {P : LPk} {Q : Option AV → Mm → Prop} {K : KT} {cc : ByteArray} {own : String} {nL d : Nat} {ret : Option FieldType} {pc n : Nat} {ls : List (Option AV)} {st : List AV} {μ : Mm} {i : Nat} {a : Int} {ls' : List (Option AV)} (hO : KOk P Q K cc own nL d ret) (hd : decode cc pc = .ok (.istore i, 2)) (hn : pc + 2 = n) (hi : i < ls.length) (hk : okS ls i = true) (hls : ls.set i (some (vI a)) = ls') (kk : AW K n ls' st μ) : AW K pc ls (vI a :: st) μ := by
  subst hn
  intro H locs Ls hP hS hl
  subst hls
  refine lv_istore hO.1.1 hO.1.2.1 hd hl.has hi rfl (fun L' h' => ?_)
  have h2 := lvk_set1 (v := vI a) hk h'
  exact kk H locs L' hP hS (by rw [List.length_set]; exact h2)
theorem aw_astore_n {P : LPk} {Q : Option AV → Mm → Prop} {K : KT} {cc : ByteArray} {own : String} {nL d : Nat} {ret : Option FieldType} {pc n : Nat} {ls : List (Option AV)} {st : List AV} {μ : Mm} {k : Fin 4} {a : Nat} {ls' : List (Option AV)} (hO : KOk P Q K cc own nL d ret) (hd : decode cc pc = .ok (.astore_n k, 1)) (hn : pc + 1 = n) (hi : k.val < ls.length) (hk : okS ls k.val = true) (hls : ls.set k.val (some (vR a)) = ls') (kk : AW K n ls' st μ) : AW K pc ls (vR a :: st) μ := by
  subst hn
  intro H locs Ls hP hS hl
  subst hls
  refine lv_astore_n hO.1.1 hO.1.2.1 hd rfl hl.has hi rfl (fun L' h' => ?_)
  have h2 := lvk_set1 (v := vR a) hk h'
  exact kk H locs L' hP hS (by rw [List.length_set]; exact h2)
theorem aw_astore {P : LPk} {Q : Option AV → Mm → Prop} {K : KT} {cc : ByteArray} {own : String} {nL d : Nat} {ret : Option FieldType} {pc n : Nat} {ls : List (Option AV)} {st : List AV} {μ : Mm} {i : Nat} {a : Nat} {ls' : List (Option AV)} (hO : KOk P Q K cc own nL d ret) (hd : decode cc pc = .ok (.astore i, 2)) (hn : pc + 2 = n) (hi : i < ls.length) (hk : okS ls i = true) (hls : ls.set i (some (vR a)) = ls') (kk : AW K n ls' st μ) : AW K pc ls (vR a :: st) μ := by
  subst hn
  intro H locs Ls hP hS hl
  subst hls
  refine lv_astore hO.1.1 hO.1.2.1 hd hl.has hi rfl (fun L' h' => ?_)
  have h2 := lvk_set1 (v := vR a) hk h'
  exact kk H locs L' hP hS (by rw [List.length_set]; exact h2)
theorem aw_lstore {P : LPk} {Q : Option AV → Mm → Prop} {K : KT} {cc : ByteArray} {own : String} {nL d : Nat} {ret : Option FieldType} {pc n : Nat} {ls : List (Option AV)} {st : List AV} {μ : Mm} {i : Nat} {a : Int} {ls' : List (Option AV)} (hO : KOk P Q K cc own nL d ret) (hd : decode cc pc = .ok (.lstore i, 2)) (hn : pc + 2 = n) (hi : i + 1 < ls.length) (hk : okS ls i = true) (hls : (ls.set i (some (vL a))).set (i + 1) none = ls') (kk : AW K n ls' st μ) : AW K pc ls (vL a :: st) μ := by
  subst hn
  intro H locs Ls hP hS hl
  subst hls
  refine lv_lstore hO.1.1 hO.1.2.1 hd hl.has hi rfl (fun L' h' => ?_)
  have h2 := lvk_set2 (x := a) hk h'
  exact kk H locs L' hP hS (by rw [List.length_set, List.length_set]; exact h2)
theorem aw_iinc {P : LPk} {Q : Option AV → Mm → Prop} {K : KT} {cc : ByteArray} {own : String} {nL d : Nat} {ret : Option FieldType} {pc n : Nat} {ls : List (Option AV)} {st : List AV} {μ : Mm} {i : Nat} {a b : Int} {ls' : List (Option AV)} (hO : KOk P Q K cc own nL d ret) (hd : decode cc pc = .ok (.iinc i b, 3)) (hn : pc + 3 = n) (hv : ls[i]? = some (some (vI a))) (hk : okS ls i = true) (hls : ls.set i (some (vI (a + b))) = ls') (kk : AW K n ls' st μ) : AW K pc ls st μ := by
  subst hn
  intro H locs Ls hP hS hl
  subst hls
  have hi : i < ls.length := (List.getElem?_eq_some_iff.mp hv).1
  obtain ⟨j, hj⟩ : ∃ j, (la K.q ls)[j]? = some (i, Value.int (iI a)) := List.getElem?_of_mem (la_mem.mpr ⟨vI a, hv, rfl⟩)
  refine lv_iinc hO.1.1 hO.1.2.1 hd hl.has hj (v := iI (a + b)) (iI_add a b) hi rfl (fun L' h' => ?_)
  have h2 := lvk_set1 (v := vI (a + b)) hk h'
  exact kk H locs L' hP hS (by rw [List.length_set]; exact h2)
theorem aw_iadd {P : LPk} {Q : Option AV → Mm → Prop} {K : KT} {cc : ByteArray} {own : String} {nL d : Nat} {ret : Option FieldType} {pc n : Nat} {ls : List (Option AV)} {st : List AV} {μ : Mm} {a b : Int} (hO : KOk P Q K cc own nL d ret) (hd : decode cc pc = .ok (.iadd, 1)) (hn : pc + 1 = n) (kk : AW K n ls (vI (a + b) :: st) μ) : AW K pc ls (vI b :: vI a :: st) μ := by
  subst hn
  intro H locs Ls hP hS hl
  refine lv_iadd hO.1.1 hO.1.2.1 hd ?_
  rw [iI_add]
  exact (kk H locs Ls hP hS hl)
theorem aw_isub {P : LPk} {Q : Option AV → Mm → Prop} {K : KT} {cc : ByteArray} {own : String} {nL d : Nat} {ret : Option FieldType} {pc n : Nat} {ls : List (Option AV)} {st : List AV} {μ : Mm} {a b : Int} (hO : KOk P Q K cc own nL d ret) (hd : decode cc pc = .ok (.isub, 1)) (hn : pc + 1 = n) (kk : AW K n ls (vI (a - b) :: st) μ) : AW K pc ls (vI b :: vI a :: st) μ := by
  subst hn
  intro H locs Ls hP hS hl
  refine lv_isub hO.1.1 hO.1.2.1 hd ?_
  rw [iI_sub]
  exact (kk H locs Ls hP hS hl)
theorem aw_imul {P : LPk} {Q : Option AV → Mm → Prop} {K : KT} {cc : ByteArray} {own : String} {nL d : Nat} {ret : Option FieldType} {pc n : Nat} {ls : List (Option AV)} {st : List AV} {μ : Mm} {a b : Int} (hO : KOk P Q K cc own nL d ret) (hd : decode cc pc = .ok (.imul, 1)) (hn : pc + 1 = n) (kk : AW K n ls (vI (a * b) :: st) μ) : AW K pc ls (vI b :: vI a :: st) μ := by
  subst hn
  intro H locs Ls hP hS hl
  refine lv_imul hO.1.1 hO.1.2.1 hd ?_
  rw [iI_mul]
  exact (kk H locs Ls hP hS hl)
theorem aw_ineg {P : LPk} {Q : Option AV → Mm → Prop} {K : KT} {cc : ByteArray} {own : String} {nL d : Nat} {ret : Option FieldType} {pc n : Nat} {ls : List (Option AV)} {st : List AV} {μ : Mm} {a : Int} (hO : KOk P Q K cc own nL d ret) (hd : decode cc pc = .ok (.ineg, 1)) (hn : pc + 1 = n) (kk : AW K n ls (vI (-a) :: st) μ) : AW K pc ls (vI a :: st) μ := by
  subst hn
  intro H locs Ls hP hS hl
  refine lv_ineg hO.1.1 hO.1.2.1 hd ?_
  rw [iI_neg]
  exact (kk H locs Ls hP hS hl)
theorem aw_iand {P : LPk} {Q : Option AV → Mm → Prop} {K : KT} {cc : ByteArray} {own : String} {nL d : Nat} {ret : Option FieldType} {pc n : Nat} {ls : List (Option AV)} {st : List AV} {μ : Mm} {a b : Int} (hO : KOk P Q K cc own nL d ret) (hd : decode cc pc = .ok (.iand, 1)) (hn : pc + 1 = n) (kk : AW K n ls (vI (bAnd a b) :: st) μ) : AW K pc ls (vI b :: vI a :: st) μ := by
  subst hn
  intro H locs Ls hP hS hl
  refine lv_iand hO.1.1 hO.1.2.1 hd ?_
  rw [← bAnd_iI]
  exact (kk H locs Ls hP hS hl)
theorem aw_ior {P : LPk} {Q : Option AV → Mm → Prop} {K : KT} {cc : ByteArray} {own : String} {nL d : Nat} {ret : Option FieldType} {pc n : Nat} {ls : List (Option AV)} {st : List AV} {μ : Mm} {a b : Int} (hO : KOk P Q K cc own nL d ret) (hd : decode cc pc = .ok (.ior, 1)) (hn : pc + 1 = n) (kk : AW K n ls (vI (bOr a b) :: st) μ) : AW K pc ls (vI b :: vI a :: st) μ := by
  subst hn
  intro H locs Ls hP hS hl
  refine lv_ior hO.1.1 hO.1.2.1 hd ?_
  rw [← bOr_iI]
  exact (kk H locs Ls hP hS hl)
theorem aw_ixor {P : LPk} {Q : Option AV → Mm → Prop} {K : KT} {cc : ByteArray} {own : String} {nL d : Nat} {ret : Option FieldType} {pc n : Nat} {ls : List (Option AV)} {st : List AV} {μ : Mm} {a b : Int} (hO : KOk P Q K cc own nL d ret) (hd : decode cc pc = .ok (.ixor, 1)) (hn : pc + 1 = n) (kk : AW K n ls (vI (bXor a b) :: st) μ) : AW K pc ls (vI b :: vI a :: st) μ := by
  subst hn
  intro H locs Ls hP hS hl
  refine lv_ixor hO.1.1 hO.1.2.1 hd ?_
  rw [← bXor_iI]
  exact (kk H locs Ls hP hS hl)
theorem aw_ishl {P : LPk} {Q : Option AV → Mm → Prop} {K : KT} {cc : ByteArray} {own : String} {nL d : Nat} {ret : Option FieldType} {pc n : Nat} {ls : List (Option AV)} {st : List AV} {μ : Mm} {a b : Int} (hO : KOk P Q K cc own nL d ret) (hd : decode cc pc = .ok (.ishl, 1)) (hn : pc + 1 = n) (kk : AW K n ls (vI (bShl a b) :: st) μ) : AW K pc ls (vI b :: vI a :: st) μ := by
  subst hn
  intro H locs Ls hP hS hl
  refine lv_ishl hO.1.1 hO.1.2.1 hd ?_
  rw [← bShl_iI]
  exact (kk H locs Ls hP hS hl)
theorem aw_ishr {P : LPk} {Q : Option AV → Mm → Prop} {K : KT} {cc : ByteArray} {own : String} {nL d : Nat} {ret : Option FieldType} {pc n : Nat} {ls : List (Option AV)} {st : List AV} {μ : Mm} {a b : Int} (hO : KOk P Q K cc own nL d ret) (hd : decode cc pc = .ok (.ishr, 1)) (hn : pc + 1 = n) (kk : AW K n ls (vI (bShr a b) :: st) μ) : AW K pc ls (vI b :: vI a :: st) μ := by
  subst hn
  intro H locs Ls hP hS hl
  refine lv_ishr hO.1.1 hO.1.2.1 hd ?_
  rw [← bShr_iI]
  exact (kk H locs Ls hP hS hl)
theorem aw_iushr {P : LPk} {Q : Option AV → Mm → Prop} {K : KT} {cc : ByteArray} {own : String} {nL d : Nat} {ret : Option FieldType} {pc n : Nat} {ls : List (Option AV)} {st : List AV} {μ : Mm} {a b : Int} (hO : KOk P Q K cc own nL d ret) (hd : decode cc pc = .ok (.iushr, 1)) (hn : pc + 1 = n) (kk : AW K n ls (vI (bUsh a b) :: st) μ) : AW K pc ls (vI b :: vI a :: st) μ := by
  subst hn
  intro H locs Ls hP hS hl
  exact lv_iushr hO.1.1 hO.1.2.1 hd (bUsh_iI a b).symm (kk H locs Ls hP hS hl)
theorem aw_idiv {P : LPk} {Q : Option AV → Mm → Prop} {K : KT} {cc : ByteArray} {own : String} {nL d : Nat} {ret : Option FieldType} {pc n : Nat} {ls : List (Option AV)} {st : List AV} {μ : Mm} {a b : Int} (hO : KOk P Q K cc own nL d ret) (hd : decode cc pc = .ok (.idiv, 1)) (hn : pc + 1 = n) (ha : 0 ≤ a) (ha2 : a ≤ 2147483647) (hb : 0 < b) (hb2 : b ≤ 2147483647) (kk : AW K n ls (vI (a / b) :: st) μ) : AW K pc ls (vI b :: vI a :: st) μ := by
  subst hn
  intro H locs Ls hP hS hl
  refine lv_idiv hO.1.1 hO.1.2.1 hd (iI_ne0 hb hb2) ?_
  rw [iI_div ha ha2 hb hb2]
  exact (kk H locs Ls hP hS hl)
theorem aw_irem {P : LPk} {Q : Option AV → Mm → Prop} {K : KT} {cc : ByteArray} {own : String} {nL d : Nat} {ret : Option FieldType} {pc n : Nat} {ls : List (Option AV)} {st : List AV} {μ : Mm} {a b : Int} (hO : KOk P Q K cc own nL d ret) (hd : decode cc pc = .ok (.irem, 1)) (hn : pc + 1 = n) (ha : 0 ≤ a) (ha2 : a ≤ 2147483647) (hb : 0 < b) (hb2 : b ≤ 2147483647) (kk : AW K n ls (vI (a % b) :: st) μ) : AW K pc ls (vI b :: vI a :: st) μ := by
  subst hn
  intro H locs Ls hP hS hl
  refine lv_irem hO.1.1 hO.1.2.1 hd (iI_ne0 hb hb2) ?_
  rw [iI_rem ha ha2 hb hb2]
  exact (kk H locs Ls hP hS hl)
theorem aw_i2c {P : LPk} {Q : Option AV → Mm → Prop} {K : KT} {cc : ByteArray} {own : String} {nL d : Nat} {ret : Option FieldType} {pc n : Nat} {ls : List (Option AV)} {st : List AV} {μ : Mm} {a : Int} (hO : KOk P Q K cc own nL d ret) (hd : decode cc pc = .ok (.i2c, 1)) (hn : pc + 1 = n) (ha : 0 ≤ a) (ha2 : a < 65536) (kk : AW K n ls (vI a :: st) μ) : AW K pc ls (vI a :: st) μ := by
  subst hn
  intro H locs Ls hP hS hl
  exact lv_i2c hO.1.1 hO.1.2.1 hd (i2c_iI ha ha2) (kk H locs Ls hP hS hl)
theorem aw_i2l {P : LPk} {Q : Option AV → Mm → Prop} {K : KT} {cc : ByteArray} {own : String} {nL d : Nat} {ret : Option FieldType} {pc n : Nat} {ls : List (Option AV)} {st : List AV} {μ : Mm} {a : Int} (hO : KOk P Q K cc own nL d ret) (hd : decode cc pc = .ok (.i2l, 1)) (hn : pc + 1 = n) (ha : InR a) (kk : AW K n ls (vL a :: st) μ) : AW K pc ls (vI a :: st) μ := by
  subst hn
  intro H locs Ls hP hS hl
  exact lv_i2l hO.1.1 hO.1.2.1 hd (i2l_iI ha) (kk H locs Ls hP hS hl)
theorem aw_l2i {P : LPk} {Q : Option AV → Mm → Prop} {K : KT} {cc : ByteArray} {own : String} {nL d : Nat} {ret : Option FieldType} {pc n : Nat} {ls : List (Option AV)} {st : List AV} {μ : Mm} {a : Int} (hO : KOk P Q K cc own nL d ret) (hd : decode cc pc = .ok (.l2i, 1)) (hn : pc + 1 = n) (kk : AW K n ls (vI a :: st) μ) : AW K pc ls (vL a :: st) μ := by
  subst hn
  intro H locs Ls hP hS hl
  exact lv_l2i hO.1.1 hO.1.2.1 hd (l2i_lI a) (kk H locs Ls hP hS hl)
theorem aw_ladd {P : LPk} {Q : Option AV → Mm → Prop} {K : KT} {cc : ByteArray} {own : String} {nL d : Nat} {ret : Option FieldType} {pc n : Nat} {ls : List (Option AV)} {st : List AV} {μ : Mm} {a b : Int} (hO : KOk P Q K cc own nL d ret) (hd : decode cc pc = .ok (.ladd, 1)) (hn : pc + 1 = n) (kk : AW K n ls (vL (a + b) :: st) μ) : AW K pc ls (vL b :: vL a :: st) μ := by
  subst hn
  intro H locs Ls hP hS hl
  refine lv_ladd hO.1.1 hO.1.2.1 hd ?_
  rw [lI_add]
  exact (kk H locs Ls hP hS hl)
theorem aw_lsub {P : LPk} {Q : Option AV → Mm → Prop} {K : KT} {cc : ByteArray} {own : String} {nL d : Nat} {ret : Option FieldType} {pc n : Nat} {ls : List (Option AV)} {st : List AV} {μ : Mm} {a b : Int} (hO : KOk P Q K cc own nL d ret) (hd : decode cc pc = .ok (.lsub, 1)) (hn : pc + 1 = n) (kk : AW K n ls (vL (a - b) :: st) μ) : AW K pc ls (vL b :: vL a :: st) μ := by
  subst hn
  intro H locs Ls hP hS hl
  refine lv_lsub hO.1.1 hO.1.2.1 hd ?_
  rw [lI_sub]
  exact (kk H locs Ls hP hS hl)
theorem aw_lmul {P : LPk} {Q : Option AV → Mm → Prop} {K : KT} {cc : ByteArray} {own : String} {nL d : Nat} {ret : Option FieldType} {pc n : Nat} {ls : List (Option AV)} {st : List AV} {μ : Mm} {a b : Int} (hO : KOk P Q K cc own nL d ret) (hd : decode cc pc = .ok (.lmul, 1)) (hn : pc + 1 = n) (kk : AW K n ls (vL (a * b) :: st) μ) : AW K pc ls (vL b :: vL a :: st) μ := by
  subst hn
  intro H locs Ls hP hS hl
  refine lv_lmul hO.1.1 hO.1.2.1 hd ?_
  rw [lI_mul]
  exact (kk H locs Ls hP hS hl)
theorem aw_ldiv {P : LPk} {Q : Option AV → Mm → Prop} {K : KT} {cc : ByteArray} {own : String} {nL d : Nat} {ret : Option FieldType} {pc n : Nat} {ls : List (Option AV)} {st : List AV} {μ : Mm} {a b : Int} (hO : KOk P Q K cc own nL d ret) (hd : decode cc pc = .ok (.ldiv, 1)) (hn : pc + 1 = n) (ha : InL a) (hb : InL b) (hb0 : b ≠ 0) (kk : AW K n ls (vL (a.tdiv b) :: st) μ) : AW K pc ls (vL b :: vL a :: st) μ := by
  subst hn
  intro H locs Ls hP hS hl
  refine lv_ldiv hO.1.1 hO.1.2.1 hd (lI_ne0 hb hb0) ?_
  rw [lI_div ha hb]
  exact (kk H locs Ls hP hS hl)
theorem aw_lrem {P : LPk} {Q : Option AV → Mm → Prop} {K : KT} {cc : ByteArray} {own : String} {nL d : Nat} {ret : Option FieldType} {pc n : Nat} {ls : List (Option AV)} {st : List AV} {μ : Mm} {a b : Int} (hO : KOk P Q K cc own nL d ret) (hd : decode cc pc = .ok (.lrem, 1)) (hn : pc + 1 = n) (ha : InL a) (hb : InL b) (hb0 : b ≠ 0) (kk : AW K n ls (vL (a.tmod b) :: st) μ) : AW K pc ls (vL b :: vL a :: st) μ := by
  subst hn
  intro H locs Ls hP hS hl
  refine lv_lrem hO.1.1 hO.1.2.1 hd (lI_ne0 hb hb0) ?_
  rw [lI_rem ha hb]
  exact (kk H locs Ls hP hS hl)
theorem aw_lcmp {P : LPk} {Q : Option AV → Mm → Prop} {K : KT} {cc : ByteArray} {own : String} {nL d : Nat} {ret : Option FieldType} {pc n : Nat} {ls : List (Option AV)} {st : List AV} {μ : Mm} {a b : Int} (hO : KOk P Q K cc own nL d ret) (hd : decode cc pc = .ok (.lcmp, 1)) (hn : pc + 1 = n) (ha : InL a) (hb : InL b) (kk : AW K n ls (vI (sCmp a b) :: st) μ) : AW K pc ls (vL b :: vL a :: st) μ := by
  subst hn
  intro H locs Ls hP hS hl
  refine W.lcmp hO.1.1 hO.1.2.1 hd ?_
  rw [lcmp_lI ha hb]
  exact (kk H locs Ls hP hS hl)
theorem aw_land {P : LPk} {Q : Option AV → Mm → Prop} {K : KT} {cc : ByteArray} {own : String} {nL d : Nat} {ret : Option FieldType} {pc n : Nat} {ls : List (Option AV)} {st : List AV} {μ : Mm} {a b : Int} (hO : KOk P Q K cc own nL d ret) (hd : decode cc pc = .ok (.land, 1)) (hn : pc + 1 = n) (kk : AW K n ls (vL (lAnd a b) :: st) μ) : AW K pc ls (vL b :: vL a :: st) μ := by
  subst hn
  intro H locs Ls hP hS hl
  refine lv_land hO.1.1 hO.1.2.1 hd ?_
  rw [← lAnd_lI]
  exact (kk H locs Ls hP hS hl)
theorem aw_lor {P : LPk} {Q : Option AV → Mm → Prop} {K : KT} {cc : ByteArray} {own : String} {nL d : Nat} {ret : Option FieldType} {pc n : Nat} {ls : List (Option AV)} {st : List AV} {μ : Mm} {a b : Int} (hO : KOk P Q K cc own nL d ret) (hd : decode cc pc = .ok (.lor, 1)) (hn : pc + 1 = n) (kk : AW K n ls (vL (lOr a b) :: st) μ) : AW K pc ls (vL b :: vL a :: st) μ := by
  subst hn
  intro H locs Ls hP hS hl
  refine lv_lor hO.1.1 hO.1.2.1 hd ?_
  rw [← lOr_lI]
  exact (kk H locs Ls hP hS hl)
theorem aw_lushr {P : LPk} {Q : Option AV → Mm → Prop} {K : KT} {cc : ByteArray} {own : String} {nL d : Nat} {ret : Option FieldType} {pc n : Nat} {ls : List (Option AV)} {st : List AV} {μ : Mm} {a b : Int} (hO : KOk P Q K cc own nL d ret) (hd : decode cc pc = .ok (.lushr, 1)) (hn : pc + 1 = n) (kk : AW K n ls (vL (lUsh a b) :: st) μ) : AW K pc ls (vI b :: vL a :: st) μ := by
  subst hn
  intro H locs Ls hP hS hl
  exact lv_lushr hO.1.1 hO.1.2.1 hd (lUsh_lI a b).symm (kk H locs Ls hP hS hl)
theorem aw_dup {P : LPk} {Q : Option AV → Mm → Prop} {K : KT} {cc : ByteArray} {own : String} {nL d : Nat} {ret : Option FieldType} {pc n : Nat} {ls : List (Option AV)} {st : List AV} {μ : Mm} {v : AV} (hO : KOk P Q K cc own nL d ret) (hd : decode cc pc = .ok (.dup, 1)) (hn : pc + 1 = n) (h1 : (cv (fun _ => 0) v).category = 1) (kk : AW K n ls (v :: v :: st) μ) : AW K pc ls (v :: st) μ := by
  subst hn
  intro H locs Ls hP hS hl
  exact lv_dup hO.1.1 hO.1.2.1 hd (cv_cat1 h1) (kk H locs Ls hP hS hl)
theorem aw_pop {P : LPk} {Q : Option AV → Mm → Prop} {K : KT} {cc : ByteArray} {own : String} {nL d : Nat} {ret : Option FieldType} {pc n : Nat} {ls : List (Option AV)} {st : List AV} {μ : Mm} {v : AV} (hO : KOk P Q K cc own nL d ret) (hd : decode cc pc = .ok (.pop, 1)) (hn : pc + 1 = n) (h1 : (cv (fun _ => 0) v).category = 1) (kk : AW K n ls st μ) : AW K pc ls (v :: st) μ := by
  subst hn
  intro H locs Ls hP hS hl
  exact lv_pop hO.1.1 hO.1.2.1 hd (cv_cat1 h1) (kk H locs Ls hP hS hl)
theorem aw_dup2 {P : LPk} {Q : Option AV → Mm → Prop} {K : KT} {cc : ByteArray} {own : String} {nL d : Nat} {ret : Option FieldType} {pc n : Nat} {ls : List (Option AV)} {st : List AV} {μ : Mm} {v w : AV} (hO : KOk P Q K cc own nL d ret) (hd : decode cc pc = .ok (.dup2, 1)) (hn : pc + 1 = n) (h1 : (cv (fun _ => 0) v).category = 1) (h2 : (cv (fun _ => 0) w).category = 1) (kk : AW K n ls (v :: w :: v :: w :: st) μ) : AW K pc ls (v :: w :: st) μ := by
  subst hn
  intro H locs Ls hP hS hl
  exact lv_dup2_11 hO.1.1 hO.1.2.1 hd (cv_cat1 h1) (cv_cat1 h2) (kk H locs Ls hP hS hl)
theorem aw_dup2l {P : LPk} {Q : Option AV → Mm → Prop} {K : KT} {cc : ByteArray} {own : String} {nL d : Nat} {ret : Option FieldType} {pc n : Nat} {ls : List (Option AV)} {st : List AV} {μ : Mm} {a : Int} (hO : KOk P Q K cc own nL d ret) (hd : decode cc pc = .ok (.dup2, 1)) (hn : pc + 1 = n) (kk : AW K n ls (vL a :: vL a :: st) μ) : AW K pc ls (vL a :: st) μ := by
  subst hn
  intro H locs Ls hP hS hl
  exact lv_dup2_2 hO.1.1 hO.1.2.1 hd rfl (kk H locs Ls hP hS hl)
theorem aw_icmp_eq {P : LPk} {Q : Option AV → Mm → Prop} {K : KT} {cc : ByteArray} {own : String} {nL d : Nat} {ret : Option FieldType} {pc n : Nat} {ls : List (Option AV)} {st : List AV} {μ : Mm} {a b : Int} {off : Int} {tgt : Nat} (hO : KOk P Q K cc own nL d ret) (hd : decode cc pc = .ok (.if_icmp .eq off, 3)) (hn : pc + 3 = n) (ht : (pc : Int) + off = (tgt : Int)) (ha : InR a) (hb : InR b) (kt : a = b → AW K tgt ls st μ) (kf : a ≠ b → AW K n ls st μ) : AW K pc ls (vI b :: vI a :: st) μ := by
  subst hn
  intro H locs Ls hP hS hl
  exact lv_icmp_eq hO.1.1 hO.1.2.1 hd ht (fun c => kt ((iI_eq ha hb).mp c) H locs Ls hP hS hl) (fun c => kf (fun e => c (congrArg iI e)) H locs Ls hP hS hl)
theorem aw_if_eq {P : LPk} {Q : Option AV → Mm → Prop} {K : KT} {cc : ByteArray} {own : String} {nL d : Nat} {ret : Option FieldType} {pc n : Nat} {ls : List (Option AV)} {st : List AV} {μ : Mm} {a : Int} {off : Int} {tgt : Nat} (hO : KOk P Q K cc own nL d ret) (hd : decode cc pc = .ok (.ifCond .eq off, 3)) (hn : pc + 3 = n) (ht : (pc : Int) + off = (tgt : Int)) (ha : InR a) (kt : a = 0 → AW K tgt ls st μ) (kf : a ≠ 0 → AW K n ls st μ) : AW K pc ls (vI a :: st) μ := by
  subst hn
  intro H locs Ls hP hS hl
  have hb : InR 0 := ⟨by omega, by omega⟩
  exact lv_if_eq hO.1.1 hO.1.2.1 hd ht (fun c => kt ((iI_eq ha hb).mp c) H locs Ls hP hS hl) (fun c => kf (fun e => c (congrArg iI e)) H locs Ls hP hS hl)
theorem aw_icmp_ne {P : LPk} {Q : Option AV → Mm → Prop} {K : KT} {cc : ByteArray} {own : String} {nL d : Nat} {ret : Option FieldType} {pc n : Nat} {ls : List (Option AV)} {st : List AV} {μ : Mm} {a b : Int} {off : Int} {tgt : Nat} (hO : KOk P Q K cc own nL d ret) (hd : decode cc pc = .ok (.if_icmp .ne off, 3)) (hn : pc + 3 = n) (ht : (pc : Int) + off = (tgt : Int)) (ha : InR a) (hb : InR b) (kt : a ≠ b → AW K tgt ls st μ) (kf : a = b → AW K n ls st μ) : AW K pc ls (vI b :: vI a :: st) μ := by
  subst hn
  intro H locs Ls hP hS hl
  exact lv_icmp_ne hO.1.1 hO.1.2.1 hd ht (fun c => kt (fun e => c (congrArg iI e)) H locs Ls hP hS hl) (fun c => kf ((iI_eq ha hb).mp c) H locs Ls hP hS hl)
theorem aw_if_ne {P : LPk} {Q : Option AV → Mm → Prop} {K : KT} {cc : ByteArray} {own : String} {nL d : Nat} {ret : Option FieldType} {pc n : Nat} {ls : List (Option AV)} {st : List AV} {μ : Mm} {a : Int} {off : Int} {tgt : Nat} (hO : KOk P Q K cc own nL d ret) (hd : decode cc pc = .ok (.ifCond .ne off, 3)) (hn : pc + 3 = n) (ht : (pc : Int) + off = (tgt : Int)) (ha : InR a) (kt : a ≠ 0 → AW K tgt ls st μ) (kf : a = 0 → AW K n ls st μ) : AW K pc ls (vI a :: st) μ := by
  subst hn
  intro H locs Ls hP hS hl
  have hb : InR 0 := ⟨by omega, by omega⟩
  exact lv_if_ne hO.1.1 hO.1.2.1 hd ht (fun c => kt (fun e => c (congrArg iI e)) H locs Ls hP hS hl) (fun c => kf ((iI_eq ha hb).mp c) H locs Ls hP hS hl)
theorem aw_icmp_lt {P : LPk} {Q : Option AV → Mm → Prop} {K : KT} {cc : ByteArray} {own : String} {nL d : Nat} {ret : Option FieldType} {pc n : Nat} {ls : List (Option AV)} {st : List AV} {μ : Mm} {a b : Int} {off : Int} {tgt : Nat} (hO : KOk P Q K cc own nL d ret) (hd : decode cc pc = .ok (.if_icmp .lt off, 3)) (hn : pc + 3 = n) (ht : (pc : Int) + off = (tgt : Int)) (ha : InR a) (hb : InR b) (kt : a < b → AW K tgt ls st μ) (kf : b ≤ a → AW K n ls st μ) : AW K pc ls (vI b :: vI a :: st) μ := by
  subst hn
  intro H locs Ls hP hS hl
  exact lv_icmp_lt hO.1.1 hO.1.2.1 hd ht (fun c => kt ((iI_lt ha hb).mp c) H locs Ls hP hS hl) (fun c => kf (Int.not_lt.mp (fun e => c ((iI_lt ha hb).mpr e))) H locs Ls hP hS hl)
theorem aw_if_lt {P : LPk} {Q : Option AV → Mm → Prop} {K : KT} {cc : ByteArray} {own : String} {nL d : Nat} {ret : Option FieldType} {pc n : Nat} {ls : List (Option AV)} {st : List AV} {μ : Mm} {a : Int} {off : Int} {tgt : Nat} (hO : KOk P Q K cc own nL d ret) (hd : decode cc pc = .ok (.ifCond .lt off, 3)) (hn : pc + 3 = n) (ht : (pc : Int) + off = (tgt : Int)) (ha : InR a) (kt : a < 0 → AW K tgt ls st μ) (kf : 0 ≤ a → AW K n ls st μ) : AW K pc ls (vI a :: st) μ := by
  subst hn
  intro H locs Ls hP hS hl
  have hb : InR 0 := ⟨by omega, by omega⟩
  exact lv_if_lt hO.1.1 hO.1.2.1 hd ht (fun c => kt ((iI_lt ha hb).mp c) H locs Ls hP hS hl) (fun c => kf (Int.not_lt.mp (fun e => c ((iI_lt ha hb).mpr e))) H locs Ls hP hS hl)
theorem aw_icmp_ge {P : LPk} {Q : Option AV → Mm → Prop} {K : KT} {cc : ByteArray} {own : String} {nL d : Nat} {ret : Option FieldType} {pc n : Nat} {ls : List (Option AV)} {st : List AV} {μ : Mm} {a b : Int} {off : Int} {tgt : Nat} (hO : KOk P Q K cc own nL d ret) (hd : decode cc pc = .ok (.if_icmp .ge off, 3)) (hn : pc + 3 = n) (ht : (pc : Int) + off = (tgt : Int)) (ha : InR a) (hb : InR b) (kt : b ≤ a → AW K tgt ls st μ) (kf : a < b → AW K n ls st μ) : AW K pc ls (vI b :: vI a :: st) μ := by
  subst hn
  intro H locs Ls hP hS hl
  exact lv_icmp_ge hO.1.1 hO.1.2.1 hd ht (fun c => kt ((iI_le hb ha).mp c) H locs Ls hP hS hl) (fun c => kf (Int.not_le.mp (fun e => c ((iI_le hb ha).mpr e))) H locs Ls hP hS hl)
theorem aw_if_ge {P : LPk} {Q : Option AV → Mm → Prop} {K : KT} {cc : ByteArray} {own : String} {nL d : Nat} {ret : Option FieldType} {pc n : Nat} {ls : List (Option AV)} {st : List AV} {μ : Mm} {a : Int} {off : Int} {tgt : Nat} (hO : KOk P Q K cc own nL d ret) (hd : decode cc pc = .ok (.ifCond .ge off, 3)) (hn : pc + 3 = n) (ht : (pc : Int) + off = (tgt : Int)) (ha : InR a) (kt : 0 ≤ a → AW K tgt ls st μ) (kf : a < 0 → AW K n ls st μ) : AW K pc ls (vI a :: st) μ := by
  subst hn
  intro H locs Ls hP hS hl
  have hb : InR 0 := ⟨by omega, by omega⟩
  exact lv_if_ge hO.1.1 hO.1.2.1 hd ht (fun c => kt ((iI_le hb ha).mp c) H locs Ls hP hS hl) (fun c => kf (Int.not_le.mp (fun e => c ((iI_le hb ha).mpr e))) H locs Ls hP hS hl)
theorem aw_icmp_gt {P : LPk} {Q : Option AV → Mm → Prop} {K : KT} {cc : ByteArray} {own : String} {nL d : Nat} {ret : Option FieldType} {pc n : Nat} {ls : List (Option AV)} {st : List AV} {μ : Mm} {a b : Int} {off : Int} {tgt : Nat} (hO : KOk P Q K cc own nL d ret) (hd : decode cc pc = .ok (.if_icmp .gt off, 3)) (hn : pc + 3 = n) (ht : (pc : Int) + off = (tgt : Int)) (ha : InR a) (hb : InR b) (kt : b < a → AW K tgt ls st μ) (kf : a ≤ b → AW K n ls st μ) : AW K pc ls (vI b :: vI a :: st) μ := by
  subst hn
  intro H locs Ls hP hS hl
  exact lv_icmp_gt hO.1.1 hO.1.2.1 hd ht (fun c => kt ((iI_lt hb ha).mp c) H locs Ls hP hS hl) (fun c => kf (Int.not_lt.mp (fun e => c ((iI_lt hb ha).mpr e))) H locs Ls hP hS hl)
theorem aw_if_gt {P : LPk} {Q : Option AV → Mm → Prop} {K : KT} {cc : ByteArray} {own : String} {nL d : Nat} {ret : Option FieldType} {pc n : Nat} {ls : List (Option AV)} {st : List AV} {μ : Mm} {a : Int} {off : Int} {tgt : Nat} (hO : KOk P Q K cc own nL d ret) (hd : decode cc pc = .ok (.ifCond .gt off, 3)) (hn : pc + 3 = n) (ht : (pc : Int) + off = (tgt : Int)) (ha : InR a) (kt : 0 < a → AW K tgt ls st μ) (kf : a ≤ 0 → AW K n ls st μ) : AW K pc ls (vI a :: st) μ := by
  subst hn
  intro H locs Ls hP hS hl
  have hb : InR 0 := ⟨by omega, by omega⟩
  exact lv_if_gt hO.1.1 hO.1.2.1 hd ht (fun c => kt ((iI_lt hb ha).mp c) H locs Ls hP hS hl) (fun c => kf (Int.not_lt.mp (fun e => c ((iI_lt hb ha).mpr e))) H locs Ls hP hS hl)
theorem aw_icmp_le {P : LPk} {Q : Option AV → Mm → Prop} {K : KT} {cc : ByteArray} {own : String} {nL d : Nat} {ret : Option FieldType} {pc n : Nat} {ls : List (Option AV)} {st : List AV} {μ : Mm} {a b : Int} {off : Int} {tgt : Nat} (hO : KOk P Q K cc own nL d ret) (hd : decode cc pc = .ok (.if_icmp .le off, 3)) (hn : pc + 3 = n) (ht : (pc : Int) + off = (tgt : Int)) (ha : InR a) (hb : InR b) (kt : a ≤ b → AW K tgt ls st μ) (kf : b < a → AW K n ls st μ) : AW K pc ls (vI b :: vI a :: st) μ := by
  subst hn
  intro H locs Ls hP hS hl
  exact lv_icmp_le hO.1.1 hO.1.2.1 hd ht (fun c => kt ((iI_le ha hb).mp c) H locs Ls hP hS hl) (fun c => kf (Int.not_le.mp (fun e => c ((iI_le ha hb).mpr e))) H locs Ls hP hS hl)
theorem aw_if_le {P : LPk} {Q : Option AV → Mm → Prop} {K : KT} {cc : ByteArray} {own : String} {nL d : Nat} {ret : Option FieldType} {pc n : Nat} {ls : List (Option AV)} {st : List AV} {μ : Mm} {a : Int} {off : Int} {tgt : Nat} (hO : KOk P Q K cc own nL d ret) (hd : decode cc pc = .ok (.ifCond .le off, 3)) (hn : pc + 3 = n) (ht : (pc : Int) + off = (tgt : Int)) (ha : InR a) (kt : a ≤ 0 → AW K tgt ls st μ) (kf : 0 < a → AW K n ls st μ) : AW K pc ls (vI a :: st) μ := by
  subst hn
  intro H locs Ls hP hS hl
  have hb : InR 0 := ⟨by omega, by omega⟩
  exact lv_if_le hO.1.1 hO.1.2.1 hd ht (fun c => kt ((iI_le ha hb).mp c) H locs Ls hP hS hl) (fun c => kf (Int.not_le.mp (fun e => c ((iI_le ha hb).mpr e))) H locs Ls hP hS hl)
theorem aw_nonnull {P : LPk} {Q : Option AV → Mm → Prop} {K : KT} {cc : ByteArray} {own : String} {nL d : Nat} {ret : Option FieldType} {pc n : Nat} {ls : List (Option AV)} {st : List AV} {μ : Mm} {k : Nat} {off : Int} {tgt : Nat} (hO : KOk P Q K cc own nL d ret) (hd : decode cc pc = .ok (.ifnonnull off, 3)) (hn : pc + 3 = n) (ht : (pc : Int) + off = (tgt : Int)) (kk : AW K tgt ls st μ) : AW K pc ls (vR k :: st) μ := by
  subst hn
  intro H locs Ls hP hS hl
  exact lv_ifnonnull hO.1.1 hO.1.2.1 hd ht (kk H locs Ls hP hS hl)
theorem aw_nonnullN {P : LPk} {Q : Option AV → Mm → Prop} {K : KT} {cc : ByteArray} {own : String} {nL d : Nat} {ret : Option FieldType} {pc n : Nat} {ls : List (Option AV)} {st : List AV} {μ : Mm} {off : Int} (hO : KOk P Q K cc own nL d ret) (hd : decode cc pc = .ok (.ifnonnull off, 3)) (hn : pc + 3 = n) (kk : AW K n ls st μ) : AW K pc ls (vN :: st) μ := by
  subst hn
  intro H locs Ls hP hS hl
  exact lv_ifnonnullN hO.1.1 hO.1.2.1 hd (kk H locs Ls hP hS hl)
theorem aw_goto {P : LPk} {Q : Option AV → Mm → Prop} {K : KT} {cc : ByteArray} {own : String} {nL d : Nat} {ret : Option FieldType} {pc : Nat} {ls : List (Option AV)} {st : List AV} {μ : Mm} {off : Int} {tgt : Nat} (hO : KOk P Q K cc own nL d ret) (hd : decode cc pc = .ok (.goto off, 3)) (ht : (pc : Int) + off = (tgt : Int)) (kk : AW K tgt ls st μ) : AW K pc ls st μ := by
  intro H locs Ls hP hS hl
  exact lv_goto hO.1.1 hO.1.2.1 hd ht (kk H locs Ls hP hS hl)
theorem aw_tableOut {P : LPk} {Q : Option AV → Mm → Prop} {K : KT} {cc : ByteArray} {own : String} {nL d : Nat} {ret : Option FieldType} {pc : Nat} {ls : List (Option AV)} {st : List AV} {μ : Mm} {dflt lo hi : Int} {offs : Array Int} {len : Nat} {a : Int} {tgt : Nat} (hO : KOk P Q K cc own nL d ret) (hd : decode cc pc = .ok (.tableswitch dflt lo hi offs, len)) (ha : InR a) (h : a < lo ∨ hi < a) (ht : (pc : Int) + dflt = (tgt : Int)) (kk : AW K tgt ls st μ) : AW K pc ls (vI a :: st) μ := by
  intro H locs Ls hP hS hl
  exact lv_tableOut hO.1.1 hO.1.2.1 hd (by rw [toInt_iI ha]; exact h) ht (kk H locs Ls hP hS hl)
theorem aw_tableIn {P : LPk} {Q : Option AV → Mm → Prop} {K : KT} {cc : ByteArray} {own : String} {nL d : Nat} {ret : Option FieldType} {pc : Nat} {ls : List (Option AV)} {st : List AV} {μ : Mm} {dflt lo hi : Int} {offs : Array Int} {len : Nat} {a off : Int} {tgt : Nat} (hO : KOk P Q K cc own nL d ret) (hd : decode cc pc = .ok (.tableswitch dflt lo hi offs, len)) (ha : InR a) (h1 : lo ≤ a) (h2 : a ≤ hi) (ho : offs[(a - lo).toNat]? = some off) (ht : (pc : Int) + off = (tgt : Int)) (kk : AW K tgt ls st μ) : AW K pc ls (vI a :: st) μ := by
  intro H locs Ls hP hS hl
  exact lv_tableIn hO.1.1 hO.1.2.1 hd (by rw [toInt_iI ha]; omega) (by rw [toInt_iI ha]; omega) (by rw [toInt_iI ha]; exact ho) ht (kk H locs Ls hP hS hl)
theorem aw_lookup {P : LPk} {Q : Option AV → Mm → Prop} {K : KT} {cc : ByteArray} {own : String} {nL d : Nat} {ret : Option FieldType} {pc : Nat} {ls : List (Option AV)} {st : List AV} {μ : Mm} {dflt : Int} {ps : Array (Int × Int)} {len : Nat} {a off : Int} {tgt : Nat} (hO : KOk P Q K cc own nL d ret) (hd : decode cc pc = .ok (.lookupswitch dflt ps, len)) (hp : (ps.toList.zip (ps.toList.drop 1)).all (fun (a, next) => a.1 < next.1) = true) (ha : InR a) (ho : Op.lookupswitch.offset ps.toList dflt a = off) (ht : (pc : Int) + off = (tgt : Int)) (kk : AW K tgt ls st μ) : AW K pc ls (vI a :: st) μ := by
  intro H locs Ls hP hS hl
  exact lv_lookup hO.1.1 hO.1.2.1 hd hp (by rw [toInt_iI ha]; exact ho) ht (kk H locs Ls hP hS hl)
