/-! ## the class's texts -/
def b8 (c : Int) : Int := if c < 128 then c else c - 256
theorem i2b_all : ∀ v : Fin 256, (iI ((v.val : Nat) : Int)).toInt8.toInt32 = iI (b8 ((v.val : Nat) : Int)) := by decide +kernel
theorem i2b_iI {a : Int} (h1 : 0 ≤ a) (h2 : a ≤ 255) : (iI a).toInt8.toInt32 = iI (b8 a) := by
  have := i2b_all ⟨a.toNat, by omega⟩
  simp only [Int.toNat_of_nonneg h1] at this
  exact this
section
variable {Q : Option AV → Mm → Prop} {K : KT} {cc : ByteArray} {own : String} {nL d : Nat} {ret : Option FieldType} {pc n : Nat} {ls : List (Option AV)} {st : List AV} {μ : Mm}
theorem aw_i2b {P : LPk} {a : Int} (hO : KOk P Q K cc own nL d ret) (hd : decode cc pc = .ok (.i2b, 1)) (hn : pc + 1 = n) (h1 : 0 ≤ a) (h2 : a ≤ 255) (kk : AW K n ls (vI (b8 a) :: st) μ) : AW K pc ls (vI a :: st) μ := by
  subst hn
  intro H locs Ls hP hS hl
  exact lv_i2b hO.1.1 hO.1.2.1 hd (i2b_iI h1 h2) (kk H locs Ls hP hS hl)
theorem aw_bret0 {P : LPk} (hO : KOk P Q K cc own nL d (some .byte)) (hd : decode cc pc = .ok (.ireturn, 1)) (hq : Q (some (vI 0)) μ) : AW K pc ls [vI 0] μ := by
  have eQ := hO.2.2.2.2.2.2.2.1
  subst eQ
  intro H locs Ls hP hS hl
  exact W.zret (v := iI 0) hO.1.1 hO.1.2.1 hO.2.1.2.2.2.2.1 rfl (fun t ht _ => ⟨⟨some (vI 0), μ, rfl, hq, by rw [ht]; exact hP⟩, hS.F ht⟩) hS.2.2 hd (hlocks := hO.2.1.2.2.2.2.2)
theorem aw_ldcS {i ix : Nat} {tx : String} (hO : KOk PC Q K cc own nL d ret) (hd : decode cc pc = .ok (.ldc ix, 2)) (hn : pc + 2 = n) (hR : ∀ (q : Nat → Nat) (A : Nat → Prop) (U : State), XC q A U → vk_R own ix tx (q (92 + i)) U) (kk : AW K n ls (vR (92 + i) :: st) μ) : AW K pc ls st μ := by
  subst hn
  intro H locs Ls hP hS hl
  obtain ⟨hX, hA⟩ := aw_XC hO
  exact va_ldcS hO.1.1 hO.1.2.1 hO.1.2.2.2.1 (hR _ _ _ hX) hd (kk H locs Ls hP hS hl)
theorem aw_strV {i ix : Nat} (hO : KOk PC Q K cc RJ0 nL d ret) (hd : decode cc pc = .ok (.getfield ix, 3)) (hn : pc + 3 = n) (hi : i < 2) (hw : Cond.fieldLink RJ0 ix RJ0 "value" "[B" ∈ lw_g) (kk : AW K n ls (vR (94 + i) :: st) μ) : AW K pc ls (vR (92 + i) :: st) μ := by
  subst hn
  intro H locs Ls hP hS hl
  obtain ⟨hX, hA⟩ := aw_XC hO
  exact vk_getf hO.1.1 hO.1.2.1 ((hX.2.2.1 i hi).2.2.1.narrow hA) hS hO.1.2.2.2.1 (hO.1.2.2.2.2 _ hw) (fun _ h => h) hd (kk H locs Ls hP hS hl)
theorem aw_strC {i ix : Nat} (hO : KOk PC Q K cc RJ0 nL d ret) (hd : decode cc pc = .ok (.getfield ix, 3)) (hn : pc + 3 = n) (hi : i < 2) (hw : Cond.fieldLink RJ0 ix RJ0 "coder" "B" ∈ lw_g) (kk : AW K n ls (vI 0 :: st) μ) : AW K pc ls (vR (92 + i) :: st) μ := by
  subst hn
  intro H locs Ls hP hS hl
  obtain ⟨hX, hA⟩ := aw_XC hO
  exact vk_getf (v := .int 0) hO.1.1 hO.1.2.1 ((hX.2.2.1 i hi).2.1.narrow hA) hS hO.1.2.2.2.1 (hO.1.2.2.2.2 _ hw) (fun _ h => h) hd (kk H locs Ls hP hS hl)
theorem aw_cmpS {ix : Nat} (hO : KOk PC Q K cc RJ0 nL d ret) (hd : decode cc pc = .ok (.getstatic ix, 3)) (hn : pc + 3 = n) (hw : Cond.fieldLink RJ0 ix RJ0 "COMPACT_STRINGS" "Z" ∈ lw_g) (kk : AW K n ls (vI 1 :: st) μ) : AW K pc ls st μ := by
  subst hn
  intro H locs Ls hP hS hl
  obtain ⟨hX, hA⟩ := aw_XC hO
  exact va_gets (v := .int 1) hO.1.1 hO.1.2.1 (hX.2.2.2.narrow hA) hS hO.1.2.2.2.1 (hO.1.2.2.2.2 _ hw) (fun _ h => h) hd (kk H locs Ls hP hS hl)
theorem txL_lt {i : Nat} : txL i ≤ 6 := by
  unfold txL txTab
  match i with
  | 0 => decide
  | 1 => decide
  | i + 2 => simp
theorem aw_strN {i : Nat} (hO : KOk PC Q K cc own nL d ret) (hd : decode cc pc = .ok (.arraylength, 1)) (hn : pc + 1 = n) (hi : i < 2) (kk : AW K n ls (vI ((txL i : Nat) : Int) :: st) μ) : AW K pc ls (vR (94 + i) :: st) μ := by
  subst hn
  intro H locs Ls hP hS hl
  obtain ⟨hX, hA⟩ := aw_XC hO
  exact va_tlen hO.1.1 hO.1.2.1 ((hX.2.2.1 i hi).2.2.2.narrow hA) hS (v := iI ((txL i : Nat) : Int)) Int32.ofInt_eq_ofNat.symm hd (kk H locs Ls hP hS hl)
theorem aw_strB {i j : Nat} {a : Int} (hO : KOk PC Q K cc own nL d ret) (hd : decode cc pc = .ok (.baload, 1)) (hn : pc + 1 = n) (hi : i < 2) (ha : a = (j : Int)) (hj : j < txL i) (kk : AW K n ls (vI (txV i j) :: st) μ) : AW K pc ls (vI a :: vR (94 + i) :: st) μ := by
  subst hn
  subst ha
  intro H locs Ls hP hS hl
  obtain ⟨hX, hA⟩ := aw_XC hO
  have hl6 := txL_lt (i := i)
  exact va_tb hO.1.1 hO.1.2.1 ((hX.2.2.1 i hi).2.2.2.narrow hA) hS (iI_in (by omega) (by omega) (by omega)) (v := .int (iI (txV i j))) (by rw [iI_nc (by omega) (by omega)]; rfl) hd (kk H locs Ls hP hS hl)
theorem aw_callVO {d' ix na maxL i : Nat} {y : MethodName} {bytes : ByteArray} {ret' : Option FieldType} {as : List AV} {Q' : Option AV → Mm → Prop} (hO : KOk PC Q K cc own nL d ret) (hd : decode cc pc = .ok (.invokevirtual ix, 3)) (hn : pc + 3 = n) (hw : Cond.methodLink own ix y ∈ lw_g) (hy : CkV y bytes maxL ret' na) (hi : i < 2) (hyc : y.cls = RJ0) (hC : Ct PC d' y bytes maxL ret' (vR (92 + i) :: as) μ Q') (hdd : d' + 1 ≤ d) (hna : as.length = na) (hnl : ls.length = nL) (hst : (st.map fun v => (cv (fun _ => 0) v).category).sum ≤ 8)
    (kk : ∀ r μ', Q' r μ' → AW K n ls (r.toList ++ st) μ') : AW K pc ls (as.reverse ++ vR (92 + i) :: st) μ := by
  subst hn
  intro H locs Ls hP hS hl
  have hts := hO.1.2.2.2.2
  have hst2 := st_sum (q := K.q) hst
  obtain ⟨hX, hA⟩ := aw_XC hO
  have hrec : ∃ cell : Cell, H[K.q (92 + i)]? = some cell ∧ cell.vm.isStatics = false ∧ K.s.vm.findClass y.cls = some cell.cls := by
    obtain ⟨cell, h1, h2, h3, -⟩ := ((hX.2.2.1 i hi).1.narrow hA).kept hS.2.1
    exact ⟨cell, h1, h2, by rw [hyc]; exact h3⟩
  have eP := hO.2.2.2.2.2.2.1
  have cw : CallW K.R K.s K.args own y.cls ix y bytes maxL ret' (.code y bytes maxL ret' :: lw_g) (rmd d') 0 0 na := ⟨callB_of na hts (lw_goodc hy.1.1) rfl rfl rfl (hts _ hy.1.2.1) (hts _ hw) hy.1.2.2.1 (by rw [hO.2.1.2.2.2.1]; exact rmd_in hdd hy.1.2.2.2), hts _ hy.2.1, hts _ hy.2.2⟩
  rw [← eP] at hC
  refine aw_back (sz := H.size) hO hS hP hl rfl (va_runV (As := as.map (cv K.q)) (rest := st.map (cv K.q)) (b := K.q (92 + i)) ⟨hO.1.1, hO.1.2.1, hO.1.2.2.1, hO.1.2.2.2.1, hts⟩ (hC K.l K.q K.ca K.D H.size K.b) cw ⟨ct_blind hO.2.2.1, hrec, aw_pre (as := vR (92 + i) :: as) hO hS hP⟩ rfl (by rw [List.length_map]; exact hna) (hl.1.trans hnl) (by simp [List.map_append, List.map_reverse, cv]) (by show 2 * 0 + _ ≤ 8; omega) hd ⟨Nat.zero_le _, Nat.zero_le _⟩) kk
theorem aw_callVOI {d' ix na maxL i : Nat} {y : MethodName} {bytes : ByteArray} {ret' : Option FieldType} {as : List AV} {v : Int} {st0 : List AV} (hO : KOk PC Q K cc own nL d ret) (hd : decode cc pc = .ok (.invokevirtual ix, 3)) (hn : pc + 3 = n) (hw : Cond.methodLink own ix y ∈ lw_g) (hy : CkV y bytes maxL ret' na) (hi : i < 2) (hyc : y.cls = RJ0) (hC : CtI PC d' y bytes maxL ret' (vR (92 + i) :: as) μ v) (hdd : d' + 1 ≤ d) (hs : as.reverse ++ vR (92 + i) :: st = st0) (hna : as.length = na) (hnl : ls.length = nL) (hst : (st.map fun v => (cv (fun _ => 0) v).category).sum ≤ 8)
    (kk : AW K n ls (vI v :: st) μ) : AW K pc ls st0 μ := by
  subst hs
  exact aw_callVO hO hd hn hw hy hi hyc hC hdd hna hnl hst (fun r m h => by obtain ⟨rfl, rfl⟩ := h; exact kk)
end
def fT (i : Nat) (c : Int) : Nat → Nat → Int
  | 0, _ => -1
  | n + 1, j => if txV i j = c then (j : Int) else fT i c n (j + 1)
set_option maxRecDepth 100000 in
theorem pf_coder : plainFor yJ0_coder_7d493 = true := by decide +kernel
set_option maxRecDepth 100000 in
theorem pf_isLatin1 : plainFor yJ0_isLatin1_aae02 = true := by decide +kernel
set_option maxRecDepth 100000 in
theorem pf_length : plainFor yJ0_length_8abf5 = true := by decide +kernel
set_option maxRecDepth 100000 in
theorem pf_indexOf2 : plainFor yJ0_indexOf_7cf53 = true := by decide +kernel
set_option maxRecDepth 100000 in
theorem pf_indexOf1 : plainFor yJ0_indexOf_0f7a4 = true := by decide +kernel
set_option maxRecDepth 100000 in
theorem pf_canEncode : plainFor yJ1_canEncode_9a6ad = true := by decide +kernel
set_option maxRecDepth 100000 in
theorem pf_lindexOf : plainFor yJ1_indexOf_4cfef = true := by decide +kernel
set_option maxRecDepth 100000 in
theorem pf_lindexOfChar : plainFor yJ1_indexOfChar_4cfef = true := by decide +kernel
theorem dJ0_coder_7d493_0 : decode cJ0_coder_7d493 0 = .ok (.getstatic 38, 3) := by decide +kernel
theorem dJ0_coder_7d493_3 : decode cJ0_coder_7d493 3 = .ok (.ifCond .eq 10, 3) := by decide +kernel
theorem dJ0_coder_7d493_6 : decode cJ0_coder_7d493 6 = .ok (.aload_n 0, 1) := by decide +kernel
theorem dJ0_coder_7d493_7 : decode cJ0_coder_7d493 7 = .ok (.getfield 15, 3) := by decide +kernel
theorem dJ0_coder_7d493_10 : decode cJ0_coder_7d493 10 = .ok (.goto 4, 3) := by decide +kernel
theorem dJ0_coder_7d493_13 : decode cJ0_coder_7d493 13 = .ok (.iconst 1, 1) := by decide +kernel
theorem dJ0_coder_7d493_14 : decode cJ0_coder_7d493 14 = .ok (.ireturn, 1) := by decide +kernel
set_option maxHeartbeats 4000000 in
set_option maxRecDepth 100000 in
theorem ctC_coder (μ : Mm) {i : Nat} (hi : i < 2) : CtI PC 0 yJ0_coder_7d493 cJ0_coder_7d493 1 (some .byte) [vR (92 + i)] μ 0 := by
  refine ct_introF [some (vR (92 + i))] RJ0 pf_coder rfl XCo rfl (Nat.le_of_ble_eq_true rfl) (fun K hO => ?_)
  refine aw_cmpS hO dJ0_coder_7d493_0 rfl (lw_t1 192 rfl rfl) ?_
  refine aw_if_eq (tgt := 13) hO dJ0_coder_7d493_3 rfl rfl (inRlit _) (fun c3 => ?_) (fun c3 => ?_)
  · exact absurd c3 (by omega)
  · refine aw_aload_n hO dJ0_coder_7d493_6 rfl rfl ?_
    refine aw_strC hO dJ0_coder_7d493_7 rfl hi (lw_t8 108 rfl rfl) ?_
    refine aw_goto (tgt := 14) hO dJ0_coder_7d493_10 rfl ?_
    refine aw_bret0 hO dJ0_coder_7d493_14 ?_
    exact rI rfl
theorem dJ0_isLatin1_aae02_0 : decode cJ0_isLatin1_aae02 0 = .ok (.getstatic 38, 3) := by decide +kernel
theorem dJ0_isLatin1_aae02_3 : decode cJ0_isLatin1_aae02 3 = .ok (.ifCond .eq 14, 3) := by decide +kernel
theorem dJ0_isLatin1_aae02_6 : decode cJ0_isLatin1_aae02 6 = .ok (.aload_n 0, 1) := by decide +kernel
theorem dJ0_isLatin1_aae02_7 : decode cJ0_isLatin1_aae02 7 = .ok (.getfield 15, 3) := by decide +kernel
theorem dJ0_isLatin1_aae02_10 : decode cJ0_isLatin1_aae02 10 = .ok (.ifCond .ne 7, 3) := by decide +kernel
theorem dJ0_isLatin1_aae02_13 : decode cJ0_isLatin1_aae02 13 = .ok (.iconst 1, 1) := by decide +kernel
theorem dJ0_isLatin1_aae02_14 : decode cJ0_isLatin1_aae02 14 = .ok (.goto 4, 3) := by decide +kernel
theorem dJ0_isLatin1_aae02_17 : decode cJ0_isLatin1_aae02 17 = .ok (.iconst 0, 1) := by decide +kernel
theorem dJ0_isLatin1_aae02_18 : decode cJ0_isLatin1_aae02 18 = .ok (.ireturn, 1) := by decide +kernel
set_option maxHeartbeats 4000000 in
set_option maxRecDepth 100000 in
theorem ctC_isLatin1 (μ : Mm) {i : Nat} (hi : i < 2) : CtI PC 0 yJ0_isLatin1_aae02 cJ0_isLatin1_aae02 1 (some .boolean) [vR (92 + i)] μ 1 := by
  refine ct_introF [some (vR (92 + i))] RJ0 pf_isLatin1 rfl XCo rfl (Nat.le_of_ble_eq_true rfl) (fun K hO => ?_)
  refine aw_cmpS hO dJ0_isLatin1_aae02_0 rfl (lw_t1 192 rfl rfl) ?_
  refine aw_if_eq (tgt := 17) hO dJ0_isLatin1_aae02_3 rfl rfl (inRlit _) (fun c3 => ?_) (fun c3 => ?_)
  · exact absurd c3 (by omega)
  · refine aw_aload_n hO dJ0_isLatin1_aae02_6 rfl rfl ?_
    refine aw_strC hO dJ0_isLatin1_aae02_7 rfl hi (lw_t8 108 rfl rfl) ?_
    refine aw_if_ne (tgt := 17) hO dJ0_isLatin1_aae02_10 rfl rfl (inRlit _) (fun c10 => ?_) (fun c10 => ?_)
    · exact absurd c10 (by omega)
    · refine aw_iconst hO dJ0_isLatin1_aae02_13 rfl ?_
      refine aw_goto (tgt := 18) hO dJ0_isLatin1_aae02_14 rfl ?_
      refine aw_zret hO dJ0_isLatin1_aae02_18 (Or.inr rfl) ?_
      exact rI rfl
theorem dJ0_length_8abf5_0 : decode cJ0_length_8abf5 0 = .ok (.aload_n 0, 1) := by decide +kernel
theorem dJ0_length_8abf5_1 : decode cJ0_length_8abf5 1 = .ok (.getfield 9, 3) := by decide +kernel
theorem dJ0_length_8abf5_4 : decode cJ0_length_8abf5 4 = .ok (.arraylength, 1) := by decide +kernel
theorem dJ0_length_8abf5_5 : decode cJ0_length_8abf5 5 = .ok (.aload_n 0, 1) := by decide +kernel
theorem dJ0_length_8abf5_6 : decode cJ0_length_8abf5 6 = .ok (.invokevirtual 335, 3) := by decide +kernel
theorem dJ0_length_8abf5_9 : decode cJ0_length_8abf5 9 = .ok (.ishr, 1) := by decide +kernel
theorem dJ0_length_8abf5_10 : decode cJ0_length_8abf5 10 = .ok (.ireturn, 1) := by decide +kernel
theorem shr0 : ∀ v : Fin 7, bShr ((v.val : Nat) : Int) 0 = ((v.val : Nat) : Int) := by decide +kernel
set_option maxHeartbeats 4000000 in
set_option maxRecDepth 100000 in
theorem ctC_length (μ : Mm) {i : Nat} (hi : i < 2) : CtI PC 1 yJ0_length_8abf5 cJ0_length_8abf5 1 (some .int) [vR (92 + i)] μ ((txL i : Nat) : Int) := by
  refine ct_introF [some (vR (92 + i))] RJ0 pf_length rfl XCo rfl (Nat.le_of_ble_eq_true rfl) (fun K hO => ?_)
  refine aw_aload_n hO dJ0_length_8abf5_0 rfl rfl ?_
  refine aw_strV hO dJ0_length_8abf5_1 rfl hi (lw_t8 107 rfl rfl) ?_
  refine aw_strN hO dJ0_length_8abf5_4 rfl hi ?_
  refine aw_aload_n hO dJ0_length_8abf5_5 rfl rfl ?_
  refine aw_callVOI (as := []) (st := [vI (((txL i) : Nat) : Int)]) hO dJ0_length_8abf5_6 rfl (lw_t1 188 rfl rfl) kJ0_coder_7d493 hi rfl (ctC_coder μ hi) (by decide) rfl rfl rfl (Nat.le_of_ble_eq_true rfl) ?_
  refine aw_ishr hO dJ0_length_8abf5_9 rfl ?_
  refine aw_iret hO dJ0_length_8abf5_10 ?_
  exact rI (shr0 ⟨txL i, by have := txL_lt (i := i); omega⟩)
theorem dJ1_canEncode_9a6ad_0 : decode cJ1_canEncode_9a6ad 0 = .ok (.iload_n 0, 1) := by decide +kernel
theorem dJ1_canEncode_9a6ad_1 : decode cJ1_canEncode_9a6ad 1 = .ok (.ifCond .lt 14, 3) := by decide +kernel
theorem dJ1_canEncode_9a6ad_4 : decode cJ1_canEncode_9a6ad 4 = .ok (.iload_n 0, 1) := by decide +kernel
theorem dJ1_canEncode_9a6ad_5 : decode cJ1_canEncode_9a6ad 5 = .ok (.sipush 255, 3) := by decide +kernel
theorem dJ1_canEncode_9a6ad_8 : decode cJ1_canEncode_9a6ad 8 = .ok (.if_icmp .gt 7, 3) := by decide +kernel
theorem dJ1_canEncode_9a6ad_11 : decode cJ1_canEncode_9a6ad 11 = .ok (.iconst 1, 1) := by decide +kernel
theorem dJ1_canEncode_9a6ad_12 : decode cJ1_canEncode_9a6ad 12 = .ok (.goto 4, 3) := by decide +kernel
theorem dJ1_canEncode_9a6ad_15 : decode cJ1_canEncode_9a6ad 15 = .ok (.iconst 0, 1) := by decide +kernel
theorem dJ1_canEncode_9a6ad_16 : decode cJ1_canEncode_9a6ad 16 = .ok (.ireturn, 1) := by decide +kernel
set_option maxHeartbeats 4000000 in
set_option maxRecDepth 100000 in
theorem ctC_canEncode (μ : Mm) {c : Int} (h1 : 0 ≤ c) (h2 : c ≤ 255) : CtI PC 0 yJ1_canEncode_9a6ad cJ1_canEncode_9a6ad 1 (some .boolean) [vI c] μ 1 := by
  refine ct_introF [some (vI c)] RJ1 pf_canEncode rfl XCo rfl (Nat.le_of_ble_eq_true rfl) (fun K hO => ?_)
  refine aw_iload_n hO dJ1_canEncode_9a6ad_0 rfl rfl ?_
  refine aw_if_lt (tgt := 15) hO dJ1_canEncode_9a6ad_1 rfl rfl ⟨by omega, by omega⟩ (fun c1 => ?_) (fun c1 => ?_)
  · exact absurd c1 (by omega)
  · refine aw_iload_n hO dJ1_canEncode_9a6ad_4 rfl rfl ?_
    refine aw_sipush hO dJ1_canEncode_9a6ad_5 rfl (by decide) (by decide) ?_
    refine aw_icmp_gt (tgt := 15) hO dJ1_canEncode_9a6ad_8 rfl rfl ⟨by omega, by omega⟩ (inRlit _) (fun c8 => ?_) (fun c8 => ?_)
    · exact absurd c8 (by omega)
    · refine aw_iconst hO dJ1_canEncode_9a6ad_11 rfl ?_
      refine aw_goto (tgt := 16) hO dJ1_canEncode_9a6ad_12 rfl ?_
      refine aw_zret hO dJ1_canEncode_9a6ad_16 (Or.inr rfl) ?_
      exact rI rfl
theorem dJ1_indexOfChar_4cfef_0 : decode cJ1_indexOfChar_4cfef 0 = .ok (.iload_n 1, 1) := by decide +kernel
theorem dJ1_indexOfChar_4cfef_1 : decode cJ1_indexOfChar_4cfef 1 = .ok (.i2b, 1) := by decide +kernel
theorem dJ1_indexOfChar_4cfef_2 : decode cJ1_indexOfChar_4cfef 2 = .ok (.istore 4, 2) := by decide +kernel
theorem dJ1_indexOfChar_4cfef_4 : decode cJ1_indexOfChar_4cfef 4 = .ok (.iload_n 2, 1) := by decide +kernel
theorem dJ1_indexOfChar_4cfef_5 : decode cJ1_indexOfChar_4cfef 5 = .ok (.istore 5, 2) := by decide +kernel
theorem dJ1_indexOfChar_4cfef_7 : decode cJ1_indexOfChar_4cfef 7 = .ok (.iload 5, 2) := by decide +kernel
theorem dJ1_indexOfChar_4cfef_9 : decode cJ1_indexOfChar_4cfef 9 = .ok (.iload_n 3, 1) := by decide +kernel
theorem dJ1_indexOfChar_4cfef_10 : decode cJ1_indexOfChar_4cfef 10 = .ok (.if_icmp .ge 21, 3) := by decide +kernel
theorem dJ1_indexOfChar_4cfef_13 : decode cJ1_indexOfChar_4cfef 13 = .ok (.aload_n 0, 1) := by decide +kernel
theorem dJ1_indexOfChar_4cfef_14 : decode cJ1_indexOfChar_4cfef 14 = .ok (.iload 5, 2) := by decide +kernel
theorem dJ1_indexOfChar_4cfef_16 : decode cJ1_indexOfChar_4cfef 16 = .ok (.baload, 1) := by decide +kernel
theorem dJ1_indexOfChar_4cfef_17 : decode cJ1_indexOfChar_4cfef 17 = .ok (.iload 4, 2) := by decide +kernel
theorem dJ1_indexOfChar_4cfef_19 : decode cJ1_indexOfChar_4cfef 19 = .ok (.if_icmp .ne 6, 3) := by decide +kernel
theorem dJ1_indexOfChar_4cfef_22 : decode cJ1_indexOfChar_4cfef 22 = .ok (.iload 5, 2) := by decide +kernel
theorem dJ1_indexOfChar_4cfef_24 : decode cJ1_indexOfChar_4cfef 24 = .ok (.ireturn, 1) := by decide +kernel
theorem dJ1_indexOfChar_4cfef_25 : decode cJ1_indexOfChar_4cfef 25 = .ok (.iinc 5 1, 3) := by decide +kernel
theorem dJ1_indexOfChar_4cfef_28 : decode cJ1_indexOfChar_4cfef 28 = .ok (.goto (-21), 3) := by decide +kernel
theorem dJ1_indexOfChar_4cfef_31 : decode cJ1_indexOfChar_4cfef 31 = .ok (.iconst (-1), 1) := by decide +kernel
theorem dJ1_indexOfChar_4cfef_32 : decode cJ1_indexOfChar_4cfef 32 = .ok (.ireturn, 1) := by decide +kernel
theorem txV_R (i j : Nat) : InR (txV i j) := by
  have h : ∀ i j, 0 ≤ txV i j ∧ txV i j ≤ 255 := by
    intro i j
    unfold txV txTab
    match i with
    | 0 => match j with
      | 0 => decide
      | 1 => decide
      | 2 => decide
      | j + 3 => simp
    | 1 => match j with
      | 0 => decide
      | 1 => decide
      | 2 => decide
      | 3 => decide
      | 4 => decide
      | 5 => decide
      | j + 6 => simp
    | i + 2 => simp
  have := h i j
  exact ⟨by omega, by omega⟩
set_option maxHeartbeats 4000000 in
set_option maxRecDepth 100000 in
theorem ctC_lindexOfChar (μ : Mm) {i : Nat} (hi : i < 2) {c : Int} (h1 : 0 ≤ c) (h2 : c ≤ 255) : CtI PC 0 yJ1_indexOfChar_4cfef cJ1_indexOfChar_4cfef 6 (some .int) [vR (94 + i), vI c, vI ((0 : Nat) : Int), vI (((txL i) : Nat) : Int)] μ (fT i (b8 c) (txL i) 0) := by
  refine ct_introF [some (vR (94 + i)), some (vI c), some (vI ((0 : Nat) : Int)), some (vI (((txL i) : Nat) : Int)), none, none] RJ1 pf_lindexOfChar rfl XCo rfl (Nat.le_of_ble_eq_true rfl) (fun K hO => ?_)
  have h6 := txL_lt (i := i)
  have hb8 : -128 ≤ b8 c ∧ b8 c ≤ 127 := by unfold b8; split <;> omega
  have lp : ∀ (n : Nat) (j : Nat), (j + n = txL i) → (fT i (b8 c) n j = fT i (b8 c) (txL i) 0) → AW K 7 [some (vR (94 + i)), some (vI c), some (vI ((0 : Nat) : Int)), some (vI (((txL i) : Nat) : Int)), some (vI (b8 c)), some (vI ((j : Nat) : Int))] [] μ := by
    intro n
    induction n with
    | zero =>
      intro j hj hr
      refine aw_iload hO dJ1_indexOfChar_4cfef_7 rfl rfl ?_
      refine aw_iload_n hO dJ1_indexOfChar_4cfef_9 rfl rfl ?_
      refine aw_icmp_ge (tgt := 31) hO dJ1_indexOfChar_4cfef_10 rfl rfl (inRn (by omega)) (inRn (by omega)) (fun c10 => ?_) (fun c10 => ?_)
      · refine aw_iconst hO dJ1_indexOfChar_4cfef_31 rfl ?_
        refine aw_iret hO dJ1_indexOfChar_4cfef_32 ?_
        exact rI (by rw [fT] at hr; exact hr)
      · exact absurd c10 (by omega)
    | succ n ih =>
      intro j hj hr
      refine aw_iload hO dJ1_indexOfChar_4cfef_7 rfl rfl ?_
      refine aw_iload_n hO dJ1_indexOfChar_4cfef_9 rfl rfl ?_
      refine aw_icmp_ge (tgt := 31) hO dJ1_indexOfChar_4cfef_10 rfl rfl (inRn (by omega)) (inRn (by omega)) (fun c10 => ?_) (fun c10 => ?_)
      · exact absurd c10 (by omega)
      · refine aw_aload_n hO dJ1_indexOfChar_4cfef_13 rfl rfl ?_
        refine aw_iload hO dJ1_indexOfChar_4cfef_14 rfl rfl ?_
        refine aw_strB (j := j) hO dJ1_indexOfChar_4cfef_16 rfl hi rfl (by omega) ?_
        refine aw_iload hO dJ1_indexOfChar_4cfef_17 rfl rfl ?_
        refine aw_icmp_ne (tgt := 25) hO dJ1_indexOfChar_4cfef_19 rfl rfl (txV_R i j) ⟨by omega, by omega⟩ (fun c19 => ?_) (fun c19 => ?_)
        · refine aw_iinc (ls' := [some (vR (94 + i)), some (vI c), some (vI ((0 : Nat) : Int)), some (vI (((txL i) : Nat) : Int)), some (vI (b8 c)), some (vI (((j : Nat) : Int) + 1))]) hO dJ1_indexOfChar_4cfef_25 rfl rfl rfl rfl ?_
          refine aw_lsq (ls' := [some (vR (94 + i)), some (vI c), some (vI ((0 : Nat) : Int)), some (vI (((txL i) : Nat) : Int)), some (vI (b8 c)), some (vI (((j + 1) : Nat) : Int))]) rfl ?_
          refine aw_goto (tgt := 7) hO dJ1_indexOfChar_4cfef_28 rfl ?_
          refine aw_lsq (ls' := [some (vR (94 + i)), some (vI c), some (vI ((0 : Nat) : Int)), some (vI (((txL i) : Nat) : Int)), some (vI (b8 c)), some (vI (((j + 1) : Nat) : Int))]) rfl ?_
          exact ih (j + 1) (by omega) (by rw [fT, if_neg c19] at hr; exact hr)
        · refine aw_iload hO dJ1_indexOfChar_4cfef_22 rfl rfl ?_
          refine aw_iret hO dJ1_indexOfChar_4cfef_24 ?_
          exact rI (by rw [fT, if_pos c19] at hr; exact hr)
  refine aw_iload_n hO dJ1_indexOfChar_4cfef_0 rfl rfl ?_
  refine aw_i2b hO dJ1_indexOfChar_4cfef_1 rfl (by omega) (by omega) ?_
  refine aw_istore (ls' := [some (vR (94 + i)), some (vI c), some (vI ((0 : Nat) : Int)), some (vI (((txL i) : Nat) : Int)), some (vI (b8 c)), none]) hO dJ1_indexOfChar_4cfef_2 rfl (Nat.le_of_ble_eq_true rfl) rfl rfl ?_
  refine aw_iload_n hO dJ1_indexOfChar_4cfef_4 rfl rfl ?_
  refine aw_istore (ls' := [some (vR (94 + i)), some (vI c), some (vI ((0 : Nat) : Int)), some (vI (((txL i) : Nat) : Int)), some (vI (b8 c)), some (vI ((0 : Nat) : Int))]) hO dJ1_indexOfChar_4cfef_5 rfl (Nat.le_of_ble_eq_true rfl) rfl rfl ?_
  refine aw_lsq (ls' := [some (vR (94 + i)), some (vI c), some (vI ((0 : Nat) : Int)), some (vI (((txL i) : Nat) : Int)), some (vI (b8 c)), some (vI ((0 : Nat) : Int))]) rfl ?_
  exact lp (txL i) 0 (by omega) rfl
theorem dJ1_indexOf_4cfef_0 : decode cJ1_indexOf_4cfef 0 = .ok (.iload_n 1, 1) := by decide +kernel
theorem dJ1_indexOf_4cfef_1 : decode cJ1_indexOf_4cfef 1 = .ok (.invokestatic 88, 3) := by decide +kernel
theorem dJ1_indexOf_4cfef_4 : decode cJ1_indexOf_4cfef 4 = .ok (.ifCond .ne 5, 3) := by decide +kernel
theorem dJ1_indexOf_4cfef_7 : decode cJ1_indexOf_4cfef 7 = .ok (.iconst (-1), 1) := by decide +kernel
theorem dJ1_indexOf_4cfef_8 : decode cJ1_indexOf_4cfef 8 = .ok (.ireturn, 1) := by decide +kernel
theorem dJ1_indexOf_4cfef_9 : decode cJ1_indexOf_4cfef 9 = .ok (.iload_n 2, 1) := by decide +kernel
theorem dJ1_indexOf_4cfef_10 : decode cJ1_indexOf_4cfef 10 = .ok (.iconst 0, 1) := by decide +kernel
theorem dJ1_indexOf_4cfef_11 : decode cJ1_indexOf_4cfef 11 = .ok (.invokestatic 92, 3) := by decide +kernel
theorem dJ1_indexOf_4cfef_14 : decode cJ1_indexOf_4cfef 14 = .ok (.istore_n 2, 1) := by decide +kernel
theorem dJ1_indexOf_4cfef_15 : decode cJ1_indexOf_4cfef 15 = .ok (.iload_n 3, 1) := by decide +kernel
theorem dJ1_indexOf_4cfef_16 : decode cJ1_indexOf_4cfef 16 = .ok (.aload_n 0, 1) := by decide +kernel
theorem dJ1_indexOf_4cfef_17 : decode cJ1_indexOf_4cfef 17 = .ok (.arraylength, 1) := by decide +kernel
theorem dJ1_indexOf_4cfef_18 : decode cJ1_indexOf_4cfef 18 = .ok (.invokestatic 38, 3) := by decide +kernel
theorem dJ1_indexOf_4cfef_21 : decode cJ1_indexOf_4cfef 21 = .ok (.istore_n 3, 1) := by decide +kernel
theorem dJ1_indexOf_4cfef_22 : decode cJ1_indexOf_4cfef 22 = .ok (.iload_n 2, 1) := by decide +kernel
theorem dJ1_indexOf_4cfef_23 : decode cJ1_indexOf_4cfef 23 = .ok (.iload_n 3, 1) := by decide +kernel
theorem dJ1_indexOf_4cfef_24 : decode cJ1_indexOf_4cfef 24 = .ok (.if_icmp .lt 5, 3) := by decide +kernel
theorem dJ1_indexOf_4cfef_27 : decode cJ1_indexOf_4cfef 27 = .ok (.iconst (-1), 1) := by decide +kernel
theorem dJ1_indexOf_4cfef_28 : decode cJ1_indexOf_4cfef 28 = .ok (.ireturn, 1) := by decide +kernel
theorem dJ1_indexOf_4cfef_29 : decode cJ1_indexOf_4cfef 29 = .ok (.aload_n 0, 1) := by decide +kernel
theorem dJ1_indexOf_4cfef_30 : decode cJ1_indexOf_4cfef 30 = .ok (.iload_n 1, 1) := by decide +kernel
theorem dJ1_indexOf_4cfef_31 : decode cJ1_indexOf_4cfef 31 = .ok (.iload_n 2, 1) := by decide +kernel
theorem dJ1_indexOf_4cfef_32 : decode cJ1_indexOf_4cfef 32 = .ok (.iload_n 3, 1) := by decide +kernel
theorem dJ1_indexOf_4cfef_33 : decode cJ1_indexOf_4cfef 33 = .ok (.invokestatic 95, 3) := by decide +kernel
theorem dJ1_indexOf_4cfef_36 : decode cJ1_indexOf_4cfef 36 = .ok (.ireturn, 1) := by decide +kernel
theorem txL_ge {i : Nat} (hi : i < 2) : 3 ≤ txL i := by
  have : i = 0 ∨ i = 1 := by omega
  rcases this with rfl | rfl <;> decide
set_option maxHeartbeats 4000000 in
set_option maxRecDepth 100000 in
theorem ctC_lindexOf (μ : Mm) {i : Nat} (hi : i < 2) {c : Int} (h1 : 0 ≤ c) (h2 : c ≤ 255) : CtI PC 1 yJ1_indexOf_4cfef cJ1_indexOf_4cfef 4 (some .int) [vR (94 + i), vI c, vI ((0 : Nat) : Int), vI (((txL i) : Nat) : Int)] μ (fT i (b8 c) (txL i) 0) := by
  refine ct_introF [some (vR (94 + i)), some (vI c), some (vI ((0 : Nat) : Int)), some (vI (((txL i) : Nat) : Int))] RJ1 pf_lindexOf rfl XCo rfl (Nat.le_of_ble_eq_true rfl) (fun K hO => ?_)
  have h6 := txL_lt (i := i)
  have h3 : 3 ≤ txL i := txL_ge hi
  refine aw_iload_n hO dJ1_indexOf_4cfef_0 rfl rfl ?_
  refine aw_callSI (as := [vI c]) (st := []) hO dJ1_indexOf_4cfef_1 rfl (lw_t2 161 rfl rfl) kJ1_canEncode_9a6ad (ctC_canEncode μ h1 h2) (by decide) rfl rfl rfl (Nat.le_of_ble_eq_true rfl) ?_
  refine aw_if_ne (tgt := 9) hO dJ1_indexOf_4cfef_4 rfl rfl (inRlit _) (fun c4 => ?_) (fun c4 => ?_)
  · refine aw_iload_n hO dJ1_indexOf_4cfef_9 rfl rfl ?_
    refine aw_iconst hO dJ1_indexOf_4cfef_10 rfl ?_
    refine aw_mmax hO dJ1_indexOf_4cfef_11 rfl (lw_t2 164 rfl rfl) mth_max (by decide) rfl (Nat.le_of_ble_eq_true rfl) (inRn (by omega)) (inRlit _) ?_
    refine aw_cg (show (max _ _ : Int) = ((0 : Nat) : Int) by decide) ?_
    refine aw_istore_n (ls' := [some (vR (94 + i)), some (vI c), some (vI ((0 : Nat) : Int)), some (vI (((txL i) : Nat) : Int))]) hO dJ1_indexOf_4cfef_14 rfl (Nat.le_of_ble_eq_true rfl) rfl rfl ?_
    refine aw_iload_n hO dJ1_indexOf_4cfef_15 rfl rfl ?_
    refine aw_aload_n hO dJ1_indexOf_4cfef_16 rfl rfl ?_
    refine aw_strN hO dJ1_indexOf_4cfef_17 rfl hi ?_
    refine aw_mmin hO dJ1_indexOf_4cfef_18 rfl (lw_t2 167 rfl rfl) mth_min (by decide) rfl (Nat.le_of_ble_eq_true rfl) (inRn (by omega)) (inRn (by omega)) ?_
    refine aw_cg (show (min _ _ : Int) = ((txL i : Nat) : Int) by omega) ?_
    refine aw_istore_n (ls' := [some (vR (94 + i)), some (vI c), some (vI ((0 : Nat) : Int)), some (vI (((txL i) : Nat) : Int))]) hO dJ1_indexOf_4cfef_21 rfl (Nat.le_of_ble_eq_true rfl) rfl rfl ?_
    refine aw_iload_n hO dJ1_indexOf_4cfef_22 rfl rfl ?_
    refine aw_iload_n hO dJ1_indexOf_4cfef_23 rfl rfl ?_
    refine aw_icmp_lt (tgt := 29) hO dJ1_indexOf_4cfef_24 rfl rfl (inRn (by omega)) (inRn (by omega)) (fun c24 => ?_) (fun c24 => ?_)
    · refine aw_aload_n hO dJ1_indexOf_4cfef_29 rfl rfl ?_
      refine aw_iload_n hO dJ1_indexOf_4cfef_30 rfl rfl ?_
      refine aw_iload_n hO dJ1_indexOf_4cfef_31 rfl rfl ?_
      refine aw_iload_n hO dJ1_indexOf_4cfef_32 rfl rfl ?_
      refine aw_callSI (as := [vR (94 + i), vI c, vI ((0 : Nat) : Int), vI (((txL i) : Nat) : Int)]) (st := []) hO dJ1_indexOf_4cfef_33 rfl (lw_t2 170 rfl rfl) kJ1_indexOfChar_4cfef (ctC_lindexOfChar μ hi h1 h2) (by decide) rfl rfl rfl (Nat.le_of_ble_eq_true rfl) ?_
      refine aw_iret hO dJ1_indexOf_4cfef_36 ?_
      exact rI rfl
    · exact absurd c24 (by omega)
  · exact absurd c4 (by omega)
theorem dJ0_indexOf_7cf53_0 : decode cJ0_indexOf_7cf53 0 = .ok (.aload_n 0, 1) := by decide +kernel
theorem dJ0_indexOf_7cf53_1 : decode cJ0_indexOf_7cf53 1 = .ok (.invokevirtual 492, 3) := by decide +kernel
theorem dJ0_indexOf_7cf53_4 : decode cJ0_indexOf_7cf53 4 = .ok (.ifCond .eq 19, 3) := by decide +kernel
theorem dJ0_indexOf_7cf53_7 : decode cJ0_indexOf_7cf53 7 = .ok (.aload_n 0, 1) := by decide +kernel
theorem dJ0_indexOf_7cf53_8 : decode cJ0_indexOf_7cf53 8 = .ok (.getfield 9, 3) := by decide +kernel
theorem dJ0_indexOf_7cf53_11 : decode cJ0_indexOf_7cf53 11 = .ok (.iload_n 1, 1) := by decide +kernel
theorem dJ0_indexOf_7cf53_12 : decode cJ0_indexOf_7cf53 12 = .ok (.iload_n 2, 1) := by decide +kernel
theorem dJ0_indexOf_7cf53_13 : decode cJ0_indexOf_7cf53 13 = .ok (.aload_n 0, 1) := by decide +kernel
theorem dJ0_indexOf_7cf53_14 : decode cJ0_indexOf_7cf53 14 = .ok (.invokevirtual 505, 3) := by decide +kernel
theorem dJ0_indexOf_7cf53_17 : decode cJ0_indexOf_7cf53 17 = .ok (.invokestatic 637, 3) := by decide +kernel
theorem dJ0_indexOf_7cf53_20 : decode cJ0_indexOf_7cf53 20 = .ok (.goto 16, 3) := by decide +kernel
theorem dJ0_indexOf_7cf53_23 : decode cJ0_indexOf_7cf53 23 = .ok (.aload_n 0, 1) := by decide +kernel
theorem dJ0_indexOf_7cf53_24 : decode cJ0_indexOf_7cf53 24 = .ok (.getfield 9, 3) := by decide +kernel
theorem dJ0_indexOf_7cf53_27 : decode cJ0_indexOf_7cf53 27 = .ok (.iload_n 1, 1) := by decide +kernel
theorem dJ0_indexOf_7cf53_28 : decode cJ0_indexOf_7cf53 28 = .ok (.iload_n 2, 1) := by decide +kernel
theorem dJ0_indexOf_7cf53_29 : decode cJ0_indexOf_7cf53 29 = .ok (.aload_n 0, 1) := by decide +kernel
theorem dJ0_indexOf_7cf53_30 : decode cJ0_indexOf_7cf53 30 = .ok (.invokevirtual 505, 3) := by decide +kernel
theorem dJ0_indexOf_7cf53_33 : decode cJ0_indexOf_7cf53 33 = .ok (.invokestatic 640, 3) := by decide +kernel
theorem dJ0_indexOf_7cf53_36 : decode cJ0_indexOf_7cf53 36 = .ok (.ireturn, 1) := by decide +kernel
set_option maxHeartbeats 4000000 in
set_option maxRecDepth 100000 in
theorem ctC_indexOf2 (μ : Mm) {i : Nat} (hi : i < 2) {c : Int} (h1 : 0 ≤ c) (h2 : c ≤ 255) : CtI PC 2 yJ0_indexOf_7cf53 cJ0_indexOf_7cf53 3 (some .int) [vR (92 + i), vI c, vI ((0 : Nat) : Int)] μ (fT i (b8 c) (txL i) 0) := by
  refine ct_introF [some (vR (92 + i)), some (vI c), some (vI ((0 : Nat) : Int))] RJ0 pf_indexOf2 rfl XCo rfl (Nat.le_of_ble_eq_true rfl) (fun K hO => ?_)
  refine aw_aload_n hO dJ0_indexOf_7cf53_0 rfl rfl ?_
  refine aw_callVOI (as := []) (st := []) hO dJ0_indexOf_7cf53_1 rfl (lw_t2 153 rfl rfl) kJ0_isLatin1_aae02 hi rfl (ctC_isLatin1 μ hi) (by decide) rfl rfl rfl (Nat.le_of_ble_eq_true rfl) ?_
  refine aw_if_eq (tgt := 23) hO dJ0_indexOf_7cf53_4 rfl rfl (inRlit _) (fun c4 => ?_) (fun c4 => ?_)
  · exact absurd c4 (by omega)
  · refine aw_aload_n hO dJ0_indexOf_7cf53_7 rfl rfl ?_
    refine aw_strV hO dJ0_indexOf_7cf53_8 rfl hi (lw_t8 107 rfl rfl) ?_
    refine aw_iload_n hO dJ0_indexOf_7cf53_11 rfl rfl ?_
    refine aw_iload_n hO dJ0_indexOf_7cf53_12 rfl rfl ?_
    refine aw_aload_n hO dJ0_indexOf_7cf53_13 rfl rfl ?_
    refine aw_callVOI (as := []) (st := [vI ((0 : Nat) : Int), vI c, vR (94 + i)]) hO dJ0_indexOf_7cf53_14 rfl (lw_t2 157 rfl rfl) kJ0_length_8abf5 hi rfl (ctC_length μ hi) (by decide) rfl rfl rfl (Nat.le_of_ble_eq_true rfl) ?_
    refine aw_callSI (as := [vR (94 + i), vI c, vI ((0 : Nat) : Int), vI (((txL i) : Nat) : Int)]) (st := []) hO dJ0_indexOf_7cf53_17 rfl (lw_t2 158 rfl rfl) kJ1_indexOf_4cfef (ctC_lindexOf μ hi h1 h2) (by decide) rfl rfl rfl (Nat.le_of_ble_eq_true rfl) ?_
    refine aw_goto (tgt := 36) hO dJ0_indexOf_7cf53_20 rfl ?_
    refine aw_iret hO dJ0_indexOf_7cf53_36 ?_
    exact rI rfl
theorem dJ0_indexOf_0f7a4_0 : decode cJ0_indexOf_0f7a4 0 = .ok (.aload_n 0, 1) := by decide +kernel
theorem dJ0_indexOf_0f7a4_1 : decode cJ0_indexOf_0f7a4 1 = .ok (.iload_n 1, 1) := by decide +kernel
theorem dJ0_indexOf_0f7a4_2 : decode cJ0_indexOf_0f7a4 2 = .ok (.iconst 0, 1) := by decide +kernel
theorem dJ0_indexOf_0f7a4_3 : decode cJ0_indexOf_0f7a4 3 = .ok (.invokevirtual 633, 3) := by decide +kernel
theorem dJ0_indexOf_0f7a4_6 : decode cJ0_indexOf_0f7a4 6 = .ok (.ireturn, 1) := by decide +kernel
set_option maxHeartbeats 4000000 in
set_option maxRecDepth 100000 in
theorem ctC_indexOf1 (μ : Mm) {i : Nat} (hi : i < 2) {c : Int} (h1 : 0 ≤ c) (h2 : c ≤ 255) : CtI PC 3 yJ0_indexOf_0f7a4 cJ0_indexOf_0f7a4 2 (some .int) [vR (92 + i), vI c] μ (fT i (b8 c) (txL i) 0) := by
  refine ct_introF [some (vR (92 + i)), some (vI c)] RJ0 pf_indexOf1 rfl XCo rfl (Nat.le_of_ble_eq_true rfl) (fun K hO => ?_)
  refine aw_aload_n hO dJ0_indexOf_0f7a4_0 rfl rfl ?_
  refine aw_iload_n hO dJ0_indexOf_0f7a4_1 rfl rfl ?_
  refine aw_iconst hO dJ0_indexOf_0f7a4_2 rfl ?_
  refine aw_callVOI (as := [vI c, vI ((0 : Nat) : Int)]) (st := []) hO dJ0_indexOf_0f7a4_3 rfl (lw_t2 149 rfl rfl) kJ0_indexOf_7cf53 hi rfl (ctC_indexOf2 μ hi h1 h2) (by decide) rfl rfl rfl (Nat.le_of_ble_eq_true rfl) ?_
  refine aw_iret hO dJ0_indexOf_0f7a4_6 ?_
  exact rI rfl
def kdV (c : Int) : Int := if c = 115 then 0 else if c = 112 then 1 else if c = 116 then 2 else -1
theorem fT_0 : ∀ c : Fin 256, fT 0 (b8 ((c.val : Nat) : Int)) (txL 0) 0 = kdV ((c.val : Nat) : Int) := by decide +kernel
theorem fT_1 : ∀ c : Fin 256, fT 1 (b8 ((c.val : Nat) : Int)) (txL 1) 0 = letV ((c.val : Nat) : Int) := by decide +kernel
theorem ctC_kind (μ : Mm) {c : Int} (h1 : 0 ≤ c) (h2 : c ≤ 255) : CtI PC 3 yJ0_indexOf_0f7a4 cJ0_indexOf_0f7a4 2 (some .int) [vR 92, vI c] μ (kdV c) := by
  have h := ctC_indexOf1 μ (i := 0) (by decide) h1 h2
  have e := fT_0 ⟨c.toNat, by omega⟩
  simp only [Int.toNat_of_nonneg h1] at e
  rw [e] at h
  exact h
theorem ctC_letter (μ : Mm) {c : Int} (h1 : 0 ≤ c) (h2 : c ≤ 255) : CtI PC 3 yJ0_indexOf_0f7a4 cJ0_indexOf_0f7a4 2 (some .int) [vR 93, vI c] μ (letV c) := by
  have h := ctC_indexOf1 μ (i := 1) (by decide) h1 h2
  have e := fT_1 ⟨c.toNat, by omega⟩
  simp only [Int.toNat_of_nonneg h1] at e
  rw [e] at h
  exact h
