/-! ## the constructors of the reference and of the class -/
def nu0 : Mm := (fun k i => if k = 0 then (if i = 29 then -1 else if i = 30 then 1 else 0) else 0, 0, none)
def mu0 : Mm := (fun k i => if k = 0 then (if i = 14 then -1 else if i = 15 then 1 else 0) else if k = 77 then (if i = 4 then -1 else 0) else 0, 0, none)
def RSX12 (_ : Nat → Nat) (h0 : Nat) (w : va_W) (ty : TyL) : Prop := ∃ (q : Nat → Nat) (ca : Nat → ClassId), q 0 = h0 ∧ w = wld PM q ca nu0 ∧ ty = wty PM ca
def RSX11 (q : Nat → Nat) (h0 : Nat) (w : va_W) (ty : TyL) : Prop := ∃ (qC : Nat → Nat) (ca : Nat → ClassId), qC 0 = h0 ∧ (∀ i, 86 ≤ i → qC i = q i) ∧ w = wld PC qC ca mu0 ∧ ty = wty PC ca
theorem bw_wld {K : NT} {nL pc : Nat} {lv : List (Nat × Value)} {st : List Value} {ws : va_W} {tys : TyL} {ce sl : Nat} {P : LPk} {q : Nat → Nat} {ca : Nat → ClassId} {μ : Mm} (g : Nat → Nat) (hg : ∀ k, k < P.2.1 → ws[g k]? = some (q k, cellE P.1 q ca μ k)) (hi : ∀ i j, i < P.2.1 → j < P.2.1 → g i = g j → i = j) (gt : Nat → Nat) (ht : ∀ k, k < P.2.1 → tys[gt k]? = some (ca k, eT (P.1 k))) (kk : BW K pc lv nL st (wld P q ca μ) (wty P ca) ce sl) : BW K pc lv nL st ws tys ce sl := by
  have h : ∀ (k : Nat) (x : Nat × va_E), (wld P q ca μ)[k]? = some x → ws[g k]? = some x := fun k x hx => by
    obtain ⟨hk, rfl⟩ := wld_get_inv hx
    exact hg k hk
  refine bw_sub (fun H hP => hP.by g h) (fun hD => hD.by g h (fun i j h1 h2 e => hi i j (by simpa [wld] using h1) (by simpa [wld] using h2) e)) (fun hK => ⟨hK.1, fun k x hx => ?_⟩) kk
  have hk : k < P.2.1 := by
    have := (List.getElem?_eq_some_iff.mp hx).1
    simpa [wty] using this
  rw [wty_get hk] at hx
  cases hx
  exact hK.2 (gt k) _ (ht k hk)
theorem dX12_init_0 : decode cX12_init 0 = .ok (.aload_n 0, 1) := by decide +kernel
theorem dX12_init_1 : decode cX12_init 1 = .ok (.invokespecial 3, 3) := by decide +kernel
theorem dX12_init_4 : decode cX12_init 4 = .ok (.aload_n 0, 1) := by decide +kernel
theorem dX12_init_5 : decode cX12_init 5 = .ok (.sipush 240, 3) := by decide +kernel
theorem dX12_init_8 : decode cX12_init 8 = .ok (.newarray .int, 2) := by decide +kernel
theorem dX12_init_10 : decode cX12_init 10 = .ok (.putfield 9, 3) := by decide +kernel
theorem dX12_init_13 : decode cX12_init 13 = .ok (.aload_n 0, 1) := by decide +kernel
theorem dX12_init_14 : decode cX12_init 14 = .ok (.sipush 2600, 3) := by decide +kernel
theorem dX12_init_17 : decode cX12_init 17 = .ok (.newarray .int, 2) := by decide +kernel
theorem dX12_init_19 : decode cX12_init 19 = .ok (.putfield 13, 3) := by decide +kernel
theorem dX12_init_22 : decode cX12_init 22 = .ok (.aload_n 0, 1) := by decide +kernel
theorem dX12_init_23 : decode cX12_init 23 = .ok (.sipush 2600, 3) := by decide +kernel
theorem dX12_init_26 : decode cX12_init 26 = .ok (.newarray .int, 2) := by decide +kernel
theorem dX12_init_28 : decode cX12_init 28 = .ok (.putfield 16, 3) := by decide +kernel
theorem dX12_init_31 : decode cX12_init 31 = .ok (.aload_n 0, 1) := by decide +kernel
theorem dX12_init_32 : decode cX12_init 32 = .ok (.iconst 5, 1) := by decide +kernel
theorem dX12_init_33 : decode cX12_init 33 = .ok (.newarray .int, 2) := by decide +kernel
theorem dX12_init_35 : decode cX12_init 35 = .ok (.putfield 19, 3) := by decide +kernel
theorem dX12_init_38 : decode cX12_init 38 = .ok (.aload_n 0, 1) := by decide +kernel
theorem dX12_init_39 : decode cX12_init 39 = .ok (.iconst 5, 1) := by decide +kernel
theorem dX12_init_40 : decode cX12_init 40 = .ok (.newarray .int, 2) := by decide +kernel
theorem dX12_init_42 : decode cX12_init 42 = .ok (.putfield 22, 3) := by decide +kernel
theorem dX12_init_45 : decode cX12_init 45 = .ok (.aload_n 0, 1) := by decide +kernel
theorem dX12_init_46 : decode cX12_init 46 = .ok (.sipush 700, 3) := by decide +kernel
theorem dX12_init_49 : decode cX12_init 49 = .ok (.newarray .int, 2) := by decide +kernel
theorem dX12_init_51 : decode cX12_init 51 = .ok (.putfield 25, 3) := by decide +kernel
theorem dX12_init_54 : decode cX12_init 54 = .ok (.aload_n 0, 1) := by decide +kernel
theorem dX12_init_55 : decode cX12_init 55 = .ok (.sipush 700, 3) := by decide +kernel
theorem dX12_init_58 : decode cX12_init 58 = .ok (.newarray .int, 2) := by decide +kernel
theorem dX12_init_60 : decode cX12_init 60 = .ok (.putfield 28, 3) := by decide +kernel
theorem dX12_init_63 : decode cX12_init 63 = .ok (.aload_n 0, 1) := by decide +kernel
theorem dX12_init_64 : decode cX12_init 64 = .ok (.sipush 700, 3) := by decide +kernel
theorem dX12_init_67 : decode cX12_init 67 = .ok (.newarray .int, 2) := by decide +kernel
theorem dX12_init_69 : decode cX12_init 69 = .ok (.putfield 31, 3) := by decide +kernel
theorem dX12_init_72 : decode cX12_init 72 = .ok (.aload_n 0, 1) := by decide +kernel
theorem dX12_init_73 : decode cX12_init 73 = .ok (.bipush 6, 2) := by decide +kernel
theorem dX12_init_75 : decode cX12_init 75 = .ok (.newarray .int, 2) := by decide +kernel
theorem dX12_init_77 : decode cX12_init 77 = .ok (.putfield 34, 3) := by decide +kernel
theorem dX12_init_80 : decode cX12_init 80 = .ok (.aload_n 0, 1) := by decide +kernel
theorem dX12_init_81 : decode cX12_init 81 = .ok (.bipush 80, 2) := by decide +kernel
theorem dX12_init_83 : decode cX12_init 83 = .ok (.newarray .int, 2) := by decide +kernel
theorem dX12_init_85 : decode cX12_init 85 = .ok (.putfield 37, 3) := by decide +kernel
theorem dX12_init_88 : decode cX12_init 88 = .ok (.aload_n 0, 1) := by decide +kernel
theorem dX12_init_89 : decode cX12_init 89 = .ok (.iconst 4, 1) := by decide +kernel
theorem dX12_init_90 : decode cX12_init 90 = .ok (.newarray .int, 2) := by decide +kernel
theorem dX12_init_92 : decode cX12_init 92 = .ok (.putfield 40, 3) := by decide +kernel
theorem dX12_init_95 : decode cX12_init 95 = .ok (.aload_n 0, 1) := by decide +kernel
theorem dX12_init_96 : decode cX12_init 96 = .ok (.bipush 24, 2) := by decide +kernel
theorem dX12_init_98 : decode cX12_init 98 = .ok (.newarray .int, 2) := by decide +kernel
theorem dX12_init_100 : decode cX12_init 100 = .ok (.putfield 43, 3) := by decide +kernel
theorem dX12_init_103 : decode cX12_init 103 = .ok (.aload_n 0, 1) := by decide +kernel
theorem dX12_init_104 : decode cX12_init 104 = .ok (.bipush 15, 2) := by decide +kernel
theorem dX12_init_106 : decode cX12_init 106 = .ok (.newarray .int, 2) := by decide +kernel
theorem dX12_init_108 : decode cX12_init 108 = .ok (.putfield 46, 3) := by decide +kernel
theorem dX12_init_111 : decode cX12_init 111 = .ok (.aload_n 0, 1) := by decide +kernel
theorem dX12_init_112 : decode cX12_init 112 = .ok (.iconst 4, 1) := by decide +kernel
theorem dX12_init_113 : decode cX12_init 113 = .ok (.newarray .int, 2) := by decide +kernel
theorem dX12_init_115 : decode cX12_init 115 = .ok (.putfield 49, 3) := by decide +kernel
theorem dX12_init_118 : decode cX12_init 118 = .ok (.aload_n 0, 1) := by decide +kernel
theorem dX12_init_119 : decode cX12_init 119 = .ok (.bipush 24, 2) := by decide +kernel
theorem dX12_init_121 : decode cX12_init 121 = .ok (.newarray .int, 2) := by decide +kernel
theorem dX12_init_123 : decode cX12_init 123 = .ok (.putfield 52, 3) := by decide +kernel
theorem dX12_init_126 : decode cX12_init 126 = .ok (.aload_n 0, 1) := by decide +kernel
theorem dX12_init_127 : decode cX12_init 127 = .ok (.bipush 15, 2) := by decide +kernel
theorem dX12_init_129 : decode cX12_init 129 = .ok (.newarray .int, 2) := by decide +kernel
theorem dX12_init_131 : decode cX12_init 131 = .ok (.putfield 55, 3) := by decide +kernel
theorem dX12_init_134 : decode cX12_init 134 = .ok (.aload_n 0, 1) := by decide +kernel
theorem dX12_init_135 : decode cX12_init 135 = .ok (.sipush 218, 3) := by decide +kernel
theorem dX12_init_138 : decode cX12_init 138 = .ok (.newarray .int, 2) := by decide +kernel
theorem dX12_init_140 : decode cX12_init 140 = .ok (.putfield 58, 3) := by decide +kernel
theorem dX12_init_143 : decode cX12_init 143 = .ok (.aload_n 0, 1) := by decide +kernel
theorem dX12_init_144 : decode cX12_init 144 = .ok (.iconst 5, 1) := by decide +kernel
theorem dX12_init_145 : decode cX12_init 145 = .ok (.newarray .int, 2) := by decide +kernel
theorem dX12_init_147 : decode cX12_init 147 = .ok (.putfield 61, 3) := by decide +kernel
theorem dX12_init_150 : decode cX12_init 150 = .ok (.aload_n 0, 1) := by decide +kernel
theorem dX12_init_151 : decode cX12_init 151 = .ok (.iconst (-1), 1) := by decide +kernel
theorem dX12_init_152 : decode cX12_init 152 = .ok (.putfield 64, 3) := by decide +kernel
theorem dX12_init_155 : decode cX12_init 155 = .ok (.aload_n 0, 1) := by decide +kernel
theorem dX12_init_156 : decode cX12_init 156 = .ok (.iconst 1, 1) := by decide +kernel
theorem dX12_init_157 : decode cX12_init 157 = .ok (.putfield 68, 3) := by decide +kernel
theorem dX12_init_160 : decode cX12_init 160 = .ok (.aload_n 0, 1) := by decide +kernel
theorem dX12_init_161 : decode cX12_init 161 = .ok (.sipush 8720, 3) := by decide +kernel
theorem dX12_init_164 : decode cX12_init 164 = .ok (.newarray .int, 2) := by decide +kernel
theorem dX12_init_166 : decode cX12_init 166 = .ok (.putfield 71, 3) := by decide +kernel
theorem dX12_init_169 : decode cX12_init 169 = .ok (.aload_n 0, 1) := by decide +kernel
theorem dX12_init_170 : decode cX12_init 170 = .ok (.bipush 37, 2) := by decide +kernel
theorem dX12_init_172 : decode cX12_init 172 = .ok (.newarray .int, 2) := by decide +kernel
theorem dX12_init_174 : decode cX12_init 174 = .ok (.putfield 74, 3) := by decide +kernel
theorem dX12_init_177 : decode cX12_init 177 = .ok (.aload_n 0, 1) := by decide +kernel
theorem dX12_init_178 : decode cX12_init 178 = .ok (.bipush 10, 2) := by decide +kernel
theorem dX12_init_180 : decode cX12_init 180 = .ok (.newarray .int, 2) := by decide +kernel
theorem dX12_init_182 : decode cX12_init 182 = .ok (.putfield 77, 3) := by decide +kernel
theorem dX12_init_185 : decode cX12_init 185 = .ok (.aload_n 0, 1) := by decide +kernel
theorem dX12_init_186 : decode cX12_init 186 = .ok (.bipush 10, 2) := by decide +kernel
theorem dX12_init_188 : decode cX12_init 188 = .ok (.newarray .int, 2) := by decide +kernel
theorem dX12_init_190 : decode cX12_init 190 = .ok (.putfield 80, 3) := by decide +kernel
theorem dX12_init_193 : decode cX12_init 193 = .ok (.aload_n 0, 1) := by decide +kernel
theorem dX12_init_194 : decode cX12_init 194 = .ok (.bipush 10, 2) := by decide +kernel
theorem dX12_init_196 : decode cX12_init 196 = .ok (.newarray .boolean, 2) := by decide +kernel
theorem dX12_init_198 : decode cX12_init 198 = .ok (.putfield 83, 3) := by decide +kernel
theorem dX12_init_201 : decode cX12_init 201 = .ok (.aload_n 0, 1) := by decide +kernel
theorem dX12_init_202 : decode cX12_init 202 = .ok (.sipush 218, 3) := by decide +kernel
theorem dX12_init_205 : decode cX12_init 205 = .ok (.newarray .int, 2) := by decide +kernel
theorem dX12_init_207 : decode cX12_init 207 = .ok (.putfield 87, 3) := by decide +kernel
theorem dX12_init_210 : decode cX12_init 210 = .ok (.return_, 1) := by decide +kernel
set_option maxRecDepth 100000 in
theorem kX12_init : CkB yX12_init cX12_init 1 none 0 := ⟨(lw_t5 212 rfl rfl), (lw_t1 14 rfl rfl), by decide +kernel, by decide⟩
theorem kiX12_init : Cond.instanceMethod yX12_init ∈ lw_g := (lw_t5 211 rfl rfl)
set_option maxHeartbeats 1000000 in
set_option maxRecDepth 100000 in
theorem cnX12 : CtN 1 24 16950 yX12_init cX12_init 1 12 [.int 0, .null, .int 0, .int 0, .int 0, .int 0, .null, .null, .null, .null, .null, .null, .null, .int 0, .int 0, .null, .null, .null, .null, .null, .int 0, .int 0, .null, .null, .null, .int 0, .int 0, .null, .null, .int 0, .int 0, .int 0, .int 0, .int 0, .null, .int 0, .long 0, .null, .null, .null, .null, .int 0, .int 0, .int 0, .null, .int 0] [] RSX12 := by
  refine ctn_intro RX12 (fun h0 => [(0, .ref h0)]) (by decide) rfl rfl (fun _ => rfl) (fun _ => Nat.le_of_ble_eq_true rfl) (fun K h0 hO hRS => ?_)
  refine bw_aload 0 hO dX12_init_0 rfl rfl ?_
  refine bw_obj hO dX12_init_1 rfl (lw_t5 213 rfl rfl) objW (by decide) ?_
  refine bw_aload 0 hO dX12_init_4 rfl rfl ?_
  refine bw_sipush hO dX12_init_5 rfl (by decide) ?_
  refine bw_newa (N := 240) hO dX12_init_8 rfl (lw_t1 62 rfl rfl) rfl rfl rfl (by decide) (by decide) (by decide) (by decide) (fun q0 c0 => ?_)
  refine bw_c1 ?_
  refine bw_put (f := 1) (fs' := [.int 0, .ref q0, .int 0, .int 0, .int 0, .int 0, .null, .null, .null, .null, .null, .null, .null, .int 0, .int 0, .null, .null, .null, .null, .null, .int 0, .int 0, .null, .null, .null, .int 0, .int 0, .null, .null, .int 0, .int 0, .int 0, .int 0, .int 0, .null, .int 0, .long 0, .null, .null, .null, .null, .int 0, .int 0, .int 0, .null, .int 0]) hO dX12_init_10 rfl okX12 tyX12_ok nmX12 (by decide) (lw_t5 215 rfl rfl) rfl rfl rfl (Nat.le_of_ble_eq_true rfl) rfl ?_
  refine bw_aload 0 hO dX12_init_13 rfl rfl ?_
  refine bw_sipush hO dX12_init_14 rfl (by decide) ?_
  refine bw_newa (N := 2600) hO dX12_init_17 rfl (lw_t1 62 rfl rfl) rfl rfl rfl (by decide) (by decide) (by decide) (by decide) (fun q1 c1 => ?_)
  refine bw_c1 ?_
  refine bw_put (f := 6) (fs' := [.int 0, .ref q0, .int 0, .int 0, .int 0, .int 0, .ref q1, .null, .null, .null, .null, .null, .null, .int 0, .int 0, .null, .null, .null, .null, .null, .int 0, .int 0, .null, .null, .null, .int 0, .int 0, .null, .null, .int 0, .int 0, .int 0, .int 0, .int 0, .null, .int 0, .long 0, .null, .null, .null, .null, .int 0, .int 0, .int 0, .null, .int 0]) hO dX12_init_19 rfl okX12 tyX12_ok nmX12 (by decide) (lw_t5 220 rfl rfl) rfl rfl rfl (Nat.le_of_ble_eq_true rfl) rfl ?_
  refine bw_aload 0 hO dX12_init_22 rfl rfl ?_
  refine bw_sipush hO dX12_init_23 rfl (by decide) ?_
  refine bw_newa (N := 2600) hO dX12_init_26 rfl (lw_t1 62 rfl rfl) rfl rfl rfl (by decide) (by decide) (by decide) (by decide) (fun q2 c2 => ?_)
  refine bw_c1 ?_
  refine bw_put (f := 7) (fs' := [.int 0, .ref q0, .int 0, .int 0, .int 0, .int 0, .ref q1, .ref q2, .null, .null, .null, .null, .null, .int 0, .int 0, .null, .null, .null, .null, .null, .int 0, .int 0, .null, .null, .null, .int 0, .int 0, .null, .null, .int 0, .int 0, .int 0, .int 0, .int 0, .null, .int 0, .long 0, .null, .null, .null, .null, .int 0, .int 0, .int 0, .null, .int 0]) hO dX12_init_28 rfl okX12 tyX12_ok nmX12 (by decide) (lw_t5 221 rfl rfl) rfl rfl rfl (Nat.le_of_ble_eq_true rfl) rfl ?_
  refine bw_aload 0 hO dX12_init_31 rfl rfl ?_
  refine bw_iconst hO dX12_init_32 rfl ?_
  refine bw_newa (N := 5) hO dX12_init_33 rfl (lw_t1 62 rfl rfl) rfl rfl rfl (by decide) (by decide) (by decide) (by decide) (fun q3 c3 => ?_)
  refine bw_c1 ?_
  refine bw_put (f := 8) (fs' := [.int 0, .ref q0, .int 0, .int 0, .int 0, .int 0, .ref q1, .ref q2, .ref q3, .null, .null, .null, .null, .int 0, .int 0, .null, .null, .null, .null, .null, .int 0, .int 0, .null, .null, .null, .int 0, .int 0, .null, .null, .int 0, .int 0, .int 0, .int 0, .int 0, .null, .int 0, .long 0, .null, .null, .null, .null, .int 0, .int 0, .int 0, .null, .int 0]) hO dX12_init_35 rfl okX12 tyX12_ok nmX12 (by decide) (lw_t5 222 rfl rfl) rfl rfl rfl (Nat.le_of_ble_eq_true rfl) rfl ?_
  refine bw_aload 0 hO dX12_init_38 rfl rfl ?_
  refine bw_iconst hO dX12_init_39 rfl ?_
  refine bw_newa (N := 5) hO dX12_init_40 rfl (lw_t1 62 rfl rfl) rfl rfl rfl (by decide) (by decide) (by decide) (by decide) (fun q4 c4 => ?_)
  refine bw_c1 ?_
  refine bw_put (f := 9) (fs' := [.int 0, .ref q0, .int 0, .int 0, .int 0, .int 0, .ref q1, .ref q2, .ref q3, .ref q4, .null, .null, .null, .int 0, .int 0, .null, .null, .null, .null, .null, .int 0, .int 0, .null, .null, .null, .int 0, .int 0, .null, .null, .int 0, .int 0, .int 0, .int 0, .int 0, .null, .int 0, .long 0, .null, .null, .null, .null, .int 0, .int 0, .int 0, .null, .int 0]) hO dX12_init_42 rfl okX12 tyX12_ok nmX12 (by decide) (lw_t5 223 rfl rfl) rfl rfl rfl (Nat.le_of_ble_eq_true rfl) rfl ?_
  refine bw_aload 0 hO dX12_init_45 rfl rfl ?_
  refine bw_sipush hO dX12_init_46 rfl (by decide) ?_
  refine bw_newa (N := 700) hO dX12_init_49 rfl (lw_t1 62 rfl rfl) rfl rfl rfl (by decide) (by decide) (by decide) (by decide) (fun q5 c5 => ?_)
  refine bw_c1 ?_
  refine bw_put (f := 10) (fs' := [.int 0, .ref q0, .int 0, .int 0, .int 0, .int 0, .ref q1, .ref q2, .ref q3, .ref q4, .ref q5, .null, .null, .int 0, .int 0, .null, .null, .null, .null, .null, .int 0, .int 0, .null, .null, .null, .int 0, .int 0, .null, .null, .int 0, .int 0, .int 0, .int 0, .int 0, .null, .int 0, .long 0, .null, .null, .null, .null, .int 0, .int 0, .int 0, .null, .int 0]) hO dX12_init_51 rfl okX12 tyX12_ok nmX12 (by decide) (lw_t5 224 rfl rfl) rfl rfl rfl (Nat.le_of_ble_eq_true rfl) rfl ?_
  refine bw_aload 0 hO dX12_init_54 rfl rfl ?_
  refine bw_sipush hO dX12_init_55 rfl (by decide) ?_
  refine bw_newa (N := 700) hO dX12_init_58 rfl (lw_t1 62 rfl rfl) rfl rfl rfl (by decide) (by decide) (by decide) (by decide) (fun q6 c6 => ?_)
  refine bw_c1 ?_
  refine bw_put (f := 11) (fs' := [.int 0, .ref q0, .int 0, .int 0, .int 0, .int 0, .ref q1, .ref q2, .ref q3, .ref q4, .ref q5, .ref q6, .null, .int 0, .int 0, .null, .null, .null, .null, .null, .int 0, .int 0, .null, .null, .null, .int 0, .int 0, .null, .null, .int 0, .int 0, .int 0, .int 0, .int 0, .null, .int 0, .long 0, .null, .null, .null, .null, .int 0, .int 0, .int 0, .null, .int 0]) hO dX12_init_60 rfl okX12 tyX12_ok nmX12 (by decide) (lw_t5 225 rfl rfl) rfl rfl rfl (Nat.le_of_ble_eq_true rfl) rfl ?_
  refine bw_aload 0 hO dX12_init_63 rfl rfl ?_
  refine bw_sipush hO dX12_init_64 rfl (by decide) ?_
  refine bw_newa (N := 700) hO dX12_init_67 rfl (lw_t1 62 rfl rfl) rfl rfl rfl (by decide) (by decide) (by decide) (by decide) (fun q7 c7 => ?_)
  refine bw_c1 ?_
  refine bw_put (f := 12) (fs' := [.int 0, .ref q0, .int 0, .int 0, .int 0, .int 0, .ref q1, .ref q2, .ref q3, .ref q4, .ref q5, .ref q6, .ref q7, .int 0, .int 0, .null, .null, .null, .null, .null, .int 0, .int 0, .null, .null, .null, .int 0, .int 0, .null, .null, .int 0, .int 0, .int 0, .int 0, .int 0, .null, .int 0, .long 0, .null, .null, .null, .null, .int 0, .int 0, .int 0, .null, .int 0]) hO dX12_init_69 rfl okX12 tyX12_ok nmX12 (by decide) (lw_t5 226 rfl rfl) rfl rfl rfl (Nat.le_of_ble_eq_true rfl) rfl ?_
  refine bw_aload 0 hO dX12_init_72 rfl rfl ?_
  refine bw_bipush hO dX12_init_73 rfl (by decide) ?_
  refine bw_newa (N := 6) hO dX12_init_75 rfl (lw_t1 62 rfl rfl) rfl rfl rfl (by decide) (by decide) (by decide) (by decide) (fun q8 c8 => ?_)
  refine bw_c1 ?_
  refine bw_put (f := 15) (fs' := [.int 0, .ref q0, .int 0, .int 0, .int 0, .int 0, .ref q1, .ref q2, .ref q3, .ref q4, .ref q5, .ref q6, .ref q7, .int 0, .int 0, .ref q8, .null, .null, .null, .null, .int 0, .int 0, .null, .null, .null, .int 0, .int 0, .null, .null, .int 0, .int 0, .int 0, .int 0, .int 0, .null, .int 0, .long 0, .null, .null, .null, .null, .int 0, .int 0, .int 0, .null, .int 0]) hO dX12_init_77 rfl okX12 tyX12_ok nmX12 (by decide) (lw_t5 229 rfl rfl) rfl rfl rfl (Nat.le_of_ble_eq_true rfl) rfl ?_
  refine bw_aload 0 hO dX12_init_80 rfl rfl ?_
  refine bw_bipush hO dX12_init_81 rfl (by decide) ?_
  refine bw_newa (N := 80) hO dX12_init_83 rfl (lw_t1 62 rfl rfl) rfl rfl rfl (by decide) (by decide) (by decide) (by decide) (fun q9 c9 => ?_)
  refine bw_c1 ?_
  refine bw_put (f := 16) (fs' := [.int 0, .ref q0, .int 0, .int 0, .int 0, .int 0, .ref q1, .ref q2, .ref q3, .ref q4, .ref q5, .ref q6, .ref q7, .int 0, .int 0, .ref q8, .ref q9, .null, .null, .null, .int 0, .int 0, .null, .null, .null, .int 0, .int 0, .null, .null, .int 0, .int 0, .int 0, .int 0, .int 0, .null, .int 0, .long 0, .null, .null, .null, .null, .int 0, .int 0, .int 0, .null, .int 0]) hO dX12_init_85 rfl okX12 tyX12_ok nmX12 (by decide) (lw_t5 230 rfl rfl) rfl rfl rfl (Nat.le_of_ble_eq_true rfl) rfl ?_
  refine bw_aload 0 hO dX12_init_88 rfl rfl ?_
  refine bw_iconst hO dX12_init_89 rfl ?_
  refine bw_newa (N := 4) hO dX12_init_90 rfl (lw_t1 62 rfl rfl) rfl rfl rfl (by decide) (by decide) (by decide) (by decide) (fun q10 c10 => ?_)
  refine bw_c1 ?_
  refine bw_put (f := 17) (fs' := [.int 0, .ref q0, .int 0, .int 0, .int 0, .int 0, .ref q1, .ref q2, .ref q3, .ref q4, .ref q5, .ref q6, .ref q7, .int 0, .int 0, .ref q8, .ref q9, .ref q10, .null, .null, .int 0, .int 0, .null, .null, .null, .int 0, .int 0, .null, .null, .int 0, .int 0, .int 0, .int 0, .int 0, .null, .int 0, .long 0, .null, .null, .null, .null, .int 0, .int 0, .int 0, .null, .int 0]) hO dX12_init_92 rfl okX12 tyX12_ok nmX12 (by decide) (lw_t5 231 rfl rfl) rfl rfl rfl (Nat.le_of_ble_eq_true rfl) rfl ?_
  refine bw_aload 0 hO dX12_init_95 rfl rfl ?_
  refine bw_bipush hO dX12_init_96 rfl (by decide) ?_
  refine bw_newa (N := 24) hO dX12_init_98 rfl (lw_t1 62 rfl rfl) rfl rfl rfl (by decide) (by decide) (by decide) (by decide) (fun q11 c11 => ?_)
  refine bw_c1 ?_
  refine bw_put (f := 18) (fs' := [.int 0, .ref q0, .int 0, .int 0, .int 0, .int 0, .ref q1, .ref q2, .ref q3, .ref q4, .ref q5, .ref q6, .ref q7, .int 0, .int 0, .ref q8, .ref q9, .ref q10, .ref q11, .null, .int 0, .int 0, .null, .null, .null, .int 0, .int 0, .null, .null, .int 0, .int 0, .int 0, .int 0, .int 0, .null, .int 0, .long 0, .null, .null, .null, .null, .int 0, .int 0, .int 0, .null, .int 0]) hO dX12_init_100 rfl okX12 tyX12_ok nmX12 (by decide) (lw_t5 232 rfl rfl) rfl rfl rfl (Nat.le_of_ble_eq_true rfl) rfl ?_
  refine bw_aload 0 hO dX12_init_103 rfl rfl ?_
  refine bw_bipush hO dX12_init_104 rfl (by decide) ?_
  refine bw_newa (N := 15) hO dX12_init_106 rfl (lw_t1 62 rfl rfl) rfl rfl rfl (by decide) (by decide) (by decide) (by decide) (fun q12 c12 => ?_)
  refine bw_c1 ?_
  refine bw_put (f := 19) (fs' := [.int 0, .ref q0, .int 0, .int 0, .int 0, .int 0, .ref q1, .ref q2, .ref q3, .ref q4, .ref q5, .ref q6, .ref q7, .int 0, .int 0, .ref q8, .ref q9, .ref q10, .ref q11, .ref q12, .int 0, .int 0, .null, .null, .null, .int 0, .int 0, .null, .null, .int 0, .int 0, .int 0, .int 0, .int 0, .null, .int 0, .long 0, .null, .null, .null, .null, .int 0, .int 0, .int 0, .null, .int 0]) hO dX12_init_108 rfl okX12 tyX12_ok nmX12 (by decide) (lw_t5 233 rfl rfl) rfl rfl rfl (Nat.le_of_ble_eq_true rfl) rfl ?_
  refine bw_aload 0 hO dX12_init_111 rfl rfl ?_
  refine bw_iconst hO dX12_init_112 rfl ?_
  refine bw_newa (N := 4) hO dX12_init_113 rfl (lw_t1 62 rfl rfl) rfl rfl rfl (by decide) (by decide) (by decide) (by decide) (fun q13 c13 => ?_)
  refine bw_c1 ?_
  refine bw_put (f := 22) (fs' := [.int 0, .ref q0, .int 0, .int 0, .int 0, .int 0, .ref q1, .ref q2, .ref q3, .ref q4, .ref q5, .ref q6, .ref q7, .int 0, .int 0, .ref q8, .ref q9, .ref q10, .ref q11, .ref q12, .int 0, .int 0, .ref q13, .null, .null, .int 0, .int 0, .null, .null, .int 0, .int 0, .int 0, .int 0, .int 0, .null, .int 0, .long 0, .null, .null, .null, .null, .int 0, .int 0, .int 0, .null, .int 0]) hO dX12_init_115 rfl okX12 tyX12_ok nmX12 (by decide) (lw_t5 236 rfl rfl) rfl rfl rfl (Nat.le_of_ble_eq_true rfl) rfl ?_
  refine bw_aload 0 hO dX12_init_118 rfl rfl ?_
  refine bw_bipush hO dX12_init_119 rfl (by decide) ?_
  refine bw_newa (N := 24) hO dX12_init_121 rfl (lw_t1 62 rfl rfl) rfl rfl rfl (by decide) (by decide) (by decide) (by decide) (fun q14 c14 => ?_)
  refine bw_c1 ?_
  refine bw_put (f := 23) (fs' := [.int 0, .ref q0, .int 0, .int 0, .int 0, .int 0, .ref q1, .ref q2, .ref q3, .ref q4, .ref q5, .ref q6, .ref q7, .int 0, .int 0, .ref q8, .ref q9, .ref q10, .ref q11, .ref q12, .int 0, .int 0, .ref q13, .ref q14, .null, .int 0, .int 0, .null, .null, .int 0, .int 0, .int 0, .int 0, .int 0, .null, .int 0, .long 0, .null, .null, .null, .null, .int 0, .int 0, .int 0, .null, .int 0]) hO dX12_init_123 rfl okX12 tyX12_ok nmX12 (by decide) (lw_t5 237 rfl rfl) rfl rfl rfl (Nat.le_of_ble_eq_true rfl) rfl ?_
  refine bw_aload 0 hO dX12_init_126 rfl rfl ?_
  refine bw_bipush hO dX12_init_127 rfl (by decide) ?_
  refine bw_newa (N := 15) hO dX12_init_129 rfl (lw_t1 62 rfl rfl) rfl rfl rfl (by decide) (by decide) (by decide) (by decide) (fun q15 c15 => ?_)
  refine bw_c1 ?_
  refine bw_put (f := 24) (fs' := [.int 0, .ref q0, .int 0, .int 0, .int 0, .int 0, .ref q1, .ref q2, .ref q3, .ref q4, .ref q5, .ref q6, .ref q7, .int 0, .int 0, .ref q8, .ref q9, .ref q10, .ref q11, .ref q12, .int 0, .int 0, .ref q13, .ref q14, .ref q15, .int 0, .int 0, .null, .null, .int 0, .int 0, .int 0, .int 0, .int 0, .null, .int 0, .long 0, .null, .null, .null, .null, .int 0, .int 0, .int 0, .null, .int 0]) hO dX12_init_131 rfl okX12 tyX12_ok nmX12 (by decide) (lw_t5 238 rfl rfl) rfl rfl rfl (Nat.le_of_ble_eq_true rfl) rfl ?_
  refine bw_aload 0 hO dX12_init_134 rfl rfl ?_
  refine bw_sipush hO dX12_init_135 rfl (by decide) ?_
  refine bw_newa (N := 218) hO dX12_init_138 rfl (lw_t1 62 rfl rfl) rfl rfl rfl (by decide) (by decide) (by decide) (by decide) (fun q16 c16 => ?_)
  refine bw_c1 ?_
  refine bw_put (f := 27) (fs' := [.int 0, .ref q0, .int 0, .int 0, .int 0, .int 0, .ref q1, .ref q2, .ref q3, .ref q4, .ref q5, .ref q6, .ref q7, .int 0, .int 0, .ref q8, .ref q9, .ref q10, .ref q11, .ref q12, .int 0, .int 0, .ref q13, .ref q14, .ref q15, .int 0, .int 0, .ref q16, .null, .int 0, .int 0, .int 0, .int 0, .int 0, .null, .int 0, .long 0, .null, .null, .null, .null, .int 0, .int 0, .int 0, .null, .int 0]) hO dX12_init_140 rfl okX12 tyX12_ok nmX12 (by decide) (lw_t6 1 rfl rfl) rfl rfl rfl (Nat.le_of_ble_eq_true rfl) rfl ?_
  refine bw_aload 0 hO dX12_init_143 rfl rfl ?_
  refine bw_iconst hO dX12_init_144 rfl ?_
  refine bw_newa (N := 5) hO dX12_init_145 rfl (lw_t1 62 rfl rfl) rfl rfl rfl (by decide) (by decide) (by decide) (by decide) (fun q17 c17 => ?_)
  refine bw_c1 ?_
  refine bw_put (f := 28) (fs' := [.int 0, .ref q0, .int 0, .int 0, .int 0, .int 0, .ref q1, .ref q2, .ref q3, .ref q4, .ref q5, .ref q6, .ref q7, .int 0, .int 0, .ref q8, .ref q9, .ref q10, .ref q11, .ref q12, .int 0, .int 0, .ref q13, .ref q14, .ref q15, .int 0, .int 0, .ref q16, .ref q17, .int 0, .int 0, .int 0, .int 0, .int 0, .null, .int 0, .long 0, .null, .null, .null, .null, .int 0, .int 0, .int 0, .null, .int 0]) hO dX12_init_147 rfl okX12 tyX12_ok nmX12 (by decide) (lw_t6 2 rfl rfl) rfl rfl rfl (Nat.le_of_ble_eq_true rfl) rfl ?_
  refine bw_aload 0 hO dX12_init_150 rfl rfl ?_
  refine bw_iconst hO dX12_init_151 rfl ?_
  refine bw_put (f := 29) (fs' := [.int 0, .ref q0, .int 0, .int 0, .int 0, .int 0, .ref q1, .ref q2, .ref q3, .ref q4, .ref q5, .ref q6, .ref q7, .int 0, .int 0, .ref q8, .ref q9, .ref q10, .ref q11, .ref q12, .int 0, .int 0, .ref q13, .ref q14, .ref q15, .int 0, .int 0, .ref q16, .ref q17, .int (iI (-1)), .int 0, .int 0, .int 0, .int 0, .null, .int 0, .long 0, .null, .null, .null, .null, .int 0, .int 0, .int 0, .null, .int 0]) hO dX12_init_152 rfl okX12 tyX12_ok nmX12 (by decide) (lw_t6 3 rfl rfl) rfl rfl rfl (Nat.le_of_ble_eq_true rfl) rfl ?_
  refine bw_aload 0 hO dX12_init_155 rfl rfl ?_
  refine bw_iconst hO dX12_init_156 rfl ?_
  refine bw_put (f := 30) (fs' := [.int 0, .ref q0, .int 0, .int 0, .int 0, .int 0, .ref q1, .ref q2, .ref q3, .ref q4, .ref q5, .ref q6, .ref q7, .int 0, .int 0, .ref q8, .ref q9, .ref q10, .ref q11, .ref q12, .int 0, .int 0, .ref q13, .ref q14, .ref q15, .int 0, .int 0, .ref q16, .ref q17, .int (iI (-1)), .int (iI 1), .int 0, .int 0, .int 0, .null, .int 0, .long 0, .null, .null, .null, .null, .int 0, .int 0, .int 0, .null, .int 0]) hO dX12_init_157 rfl okX12 tyX12_ok nmX12 (by decide) (lw_t6 4 rfl rfl) rfl rfl rfl (Nat.le_of_ble_eq_true rfl) rfl ?_
  refine bw_aload 0 hO dX12_init_160 rfl rfl ?_
  refine bw_sipush hO dX12_init_161 rfl (by decide) ?_
  refine bw_newa (N := 8720) hO dX12_init_164 rfl (lw_t1 62 rfl rfl) rfl rfl rfl (by decide) (by decide) (by decide) (by decide) (fun q18 c18 => ?_)
  refine bw_c1 ?_
  refine bw_put (f := 34) (fs' := [.int 0, .ref q0, .int 0, .int 0, .int 0, .int 0, .ref q1, .ref q2, .ref q3, .ref q4, .ref q5, .ref q6, .ref q7, .int 0, .int 0, .ref q8, .ref q9, .ref q10, .ref q11, .ref q12, .int 0, .int 0, .ref q13, .ref q14, .ref q15, .int 0, .int 0, .ref q16, .ref q17, .int (iI (-1)), .int (iI 1), .int 0, .int 0, .int 0, .ref q18, .int 0, .long 0, .null, .null, .null, .null, .int 0, .int 0, .int 0, .null, .int 0]) hO dX12_init_166 rfl okX12 tyX12_ok nmX12 (by decide) (lw_t6 8 rfl rfl) rfl rfl rfl (Nat.le_of_ble_eq_true rfl) rfl ?_
  refine bw_aload 0 hO dX12_init_169 rfl rfl ?_
  refine bw_bipush hO dX12_init_170 rfl (by decide) ?_
  refine bw_newa (N := 37) hO dX12_init_172 rfl (lw_t1 62 rfl rfl) rfl rfl rfl (by decide) (by decide) (by decide) (by decide) (fun q19 c19 => ?_)
  refine bw_c1 ?_
  refine bw_put (f := 37) (fs' := [.int 0, .ref q0, .int 0, .int 0, .int 0, .int 0, .ref q1, .ref q2, .ref q3, .ref q4, .ref q5, .ref q6, .ref q7, .int 0, .int 0, .ref q8, .ref q9, .ref q10, .ref q11, .ref q12, .int 0, .int 0, .ref q13, .ref q14, .ref q15, .int 0, .int 0, .ref q16, .ref q17, .int (iI (-1)), .int (iI 1), .int 0, .int 0, .int 0, .ref q18, .int 0, .long 0, .ref q19, .null, .null, .null, .int 0, .int 0, .int 0, .null, .int 0]) hO dX12_init_174 rfl okX12 tyX12_ok nmX12 (by decide) (lw_t6 11 rfl rfl) rfl rfl rfl (Nat.le_of_ble_eq_true rfl) rfl ?_
  refine bw_aload 0 hO dX12_init_177 rfl rfl ?_
  refine bw_bipush hO dX12_init_178 rfl (by decide) ?_
  refine bw_newa (N := 10) hO dX12_init_180 rfl (lw_t1 62 rfl rfl) rfl rfl rfl (by decide) (by decide) (by decide) (by decide) (fun q20 c20 => ?_)
  refine bw_c1 ?_
  refine bw_put (f := 38) (fs' := [.int 0, .ref q0, .int 0, .int 0, .int 0, .int 0, .ref q1, .ref q2, .ref q3, .ref q4, .ref q5, .ref q6, .ref q7, .int 0, .int 0, .ref q8, .ref q9, .ref q10, .ref q11, .ref q12, .int 0, .int 0, .ref q13, .ref q14, .ref q15, .int 0, .int 0, .ref q16, .ref q17, .int (iI (-1)), .int (iI 1), .int 0, .int 0, .int 0, .ref q18, .int 0, .long 0, .ref q19, .ref q20, .null, .null, .int 0, .int 0, .int 0, .null, .int 0]) hO dX12_init_182 rfl okX12 tyX12_ok nmX12 (by decide) (lw_t6 12 rfl rfl) rfl rfl rfl (Nat.le_of_ble_eq_true rfl) rfl ?_
  refine bw_aload 0 hO dX12_init_185 rfl rfl ?_
  refine bw_bipush hO dX12_init_186 rfl (by decide) ?_
  refine bw_newa (N := 10) hO dX12_init_188 rfl (lw_t1 62 rfl rfl) rfl rfl rfl (by decide) (by decide) (by decide) (by decide) (fun q21 c21 => ?_)
  refine bw_c1 ?_
  refine bw_put (f := 39) (fs' := [.int 0, .ref q0, .int 0, .int 0, .int 0, .int 0, .ref q1, .ref q2, .ref q3, .ref q4, .ref q5, .ref q6, .ref q7, .int 0, .int 0, .ref q8, .ref q9, .ref q10, .ref q11, .ref q12, .int 0, .int 0, .ref q13, .ref q14, .ref q15, .int 0, .int 0, .ref q16, .ref q17, .int (iI (-1)), .int (iI 1), .int 0, .int 0, .int 0, .ref q18, .int 0, .long 0, .ref q19, .ref q20, .ref q21, .null, .int 0, .int 0, .int 0, .null, .int 0]) hO dX12_init_190 rfl okX12 tyX12_ok nmX12 (by decide) (lw_t6 13 rfl rfl) rfl rfl rfl (Nat.le_of_ble_eq_true rfl) rfl ?_
  refine bw_aload 0 hO dX12_init_193 rfl rfl ?_
  refine bw_bipush hO dX12_init_194 rfl (by decide) ?_
  refine bw_newa (N := 10) hO dX12_init_196 rfl (lw_t6 113 rfl rfl) rfl rfl rfl (by decide) (by decide) (by decide) (by decide) (fun q22 c22 => ?_)
  refine bw_c1 ?_
  refine bw_put (f := 40) (fs' := [.int 0, .ref q0, .int 0, .int 0, .int 0, .int 0, .ref q1, .ref q2, .ref q3, .ref q4, .ref q5, .ref q6, .ref q7, .int 0, .int 0, .ref q8, .ref q9, .ref q10, .ref q11, .ref q12, .int 0, .int 0, .ref q13, .ref q14, .ref q15, .int 0, .int 0, .ref q16, .ref q17, .int (iI (-1)), .int (iI 1), .int 0, .int 0, .int 0, .ref q18, .int 0, .long 0, .ref q19, .ref q20, .ref q21, .ref q22, .int 0, .int 0, .int 0, .null, .int 0]) hO dX12_init_198 rfl okX12 tyX12_ok nmX12 (by decide) (lw_t6 14 rfl rfl) rfl rfl rfl (Nat.le_of_ble_eq_true rfl) rfl ?_
  refine bw_aload 0 hO dX12_init_201 rfl rfl ?_
  refine bw_sipush hO dX12_init_202 rfl (by decide) ?_
  refine bw_newa (N := 218) hO dX12_init_205 rfl (lw_t1 62 rfl rfl) rfl rfl rfl (by decide) (by decide) (by decide) (by decide) (fun q23 c23 => ?_)
  refine bw_c1 ?_
  refine bw_put (f := 44) (fs' := [.int 0, .ref q0, .int 0, .int 0, .int 0, .int 0, .ref q1, .ref q2, .ref q3, .ref q4, .ref q5, .ref q6, .ref q7, .int 0, .int 0, .ref q8, .ref q9, .ref q10, .ref q11, .ref q12, .int 0, .int 0, .ref q13, .ref q14, .ref q15, .int 0, .int 0, .ref q16, .ref q17, .int (iI (-1)), .int (iI 1), .int 0, .int 0, .int 0, .ref q18, .int 0, .long 0, .ref q19, .ref q20, .ref q21, .ref q22, .int 0, .int 0, .int 0, .ref q23, .int 0]) hO dX12_init_207 rfl okX12 tyX12_ok nmX12 (by decide) (lw_t6 18 rfl rfl) rfl rfl rfl (Nat.le_of_ble_eq_true rfl) rfl ?_
  refine bw_wld (P := PM) (q := (fun k => [h0, q0, q1, q2, q3, q4, q5, q6, q7, q8, q9, q10, q11, q12, q13, q14, q15, q16, q17, q18, q19, q20, q21, q22, q23].getD k 0)) (ca := (fun k => [c0, c0, c1, c2, c3, c4, c5, c6, c7, c8, c9, c10, c11, c12, c13, c14, c15, c16, c17, c18, c19, c20, c21, c22, c23].getD k c0)) (μ := nu0) (fun k => if k = 0 then 0 else 25 - k) (fun k hk => by
    match k, hk with
    | 0, _ => rfl
    | 1, _ => rfl
    | 2, _ => rfl
    | 3, _ => rfl
    | 4, _ => rfl
    | 5, _ => rfl
    | 6, _ => rfl
    | 7, _ => rfl
    | 8, _ => rfl
    | 9, _ => rfl
    | 10, _ => rfl
    | 11, _ => rfl
    | 12, _ => rfl
    | 13, _ => rfl
    | 14, _ => rfl
    | 15, _ => rfl
    | 16, _ => rfl
    | 17, _ => rfl
    | 18, _ => rfl
    | 19, _ => rfl
    | 20, _ => rfl
    | 21, _ => rfl
    | 22, _ => rfl
    | 23, _ => rfl
    | 24, _ => rfl
    | k + 25, hk => exact absurd hk (by show ¬ k + 25 < 25; omega)) (fun i j h1 h2 h => by
    have h1 : i < 25 := h1
    have h2 : j < 25 := h2
    split at h <;> split at h <;> omega) (fun k => if k = 0 then 23 else 24 - k) (fun k hk => by
    match k, hk with
    | 0, _ => rfl
    | 1, _ => rfl
    | 2, _ => rfl
    | 3, _ => rfl
    | 4, _ => rfl
    | 5, _ => rfl
    | 6, _ => rfl
    | 7, _ => rfl
    | 8, _ => rfl
    | 9, _ => rfl
    | 10, _ => rfl
    | 11, _ => rfl
    | 12, _ => rfl
    | 13, _ => rfl
    | 14, _ => rfl
    | 15, _ => rfl
    | 16, _ => rfl
    | 17, _ => rfl
    | 18, _ => rfl
    | 19, _ => rfl
    | 20, _ => rfl
    | 21, _ => rfl
    | 22, _ => rfl
    | 23, _ => rfl
    | 24, _ => rfl
    | k + 25, hk => exact absurd hk (by show ¬ k + 25 < 25; omega)) ?_
  exact bw_ret hO dX12_init_210 (by rw [hRS]; exact ⟨(fun k => [h0, q0, q1, q2, q3, q4, q5, q6, q7, q8, q9, q10, q11, q12, q13, q14, q15, q16, q17, q18, q19, q20, q21, q22, q23].getD k 0), (fun k => [c0, c0, c1, c2, c3, c4, c5, c6, c7, c8, c9, c10, c11, c12, c13, c14, c15, c16, c17, c18, c19, c20, c21, c22, c23].getD k c0), rfl, rfl, rfl⟩) (by decide) (by decide)
