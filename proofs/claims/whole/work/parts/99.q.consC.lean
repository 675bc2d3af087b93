/-! ## the constructor of the class -/
def qCf (l1 l2 : List Nat) (qo : Nat) (q : Nat → Nat) (k : Nat) : Nat := if k < 33 then l1.getD k 0 else if k < 73 then qo + 1 + (k - 33) else if k < 86 then l2.getD (k - 73) 0 else q k
def caCf (l1 l2 : List ClassId) (cB cd : ClassId) (k : Nat) : ClassId := if k < 33 then l1.getD k cd else if k < 73 then cB else l2.getD (k - 73) cd
section
variable {K : NT} {nL pc : Nat} {lv : List (Nat × Value)} {st : List Value} {ws : va_W} {tys : TyL} {ce sl : Nat}
/-- the contents of a row of cells, said otherwise -/
theorem bw_refx {a N : Nat} {cA : ClassId} {f : Nat → Option Nat} (j : Nat) (g : Nat → Option Nat) (ha : ws[j]? = some (a, .inl (cA, N, .inr (.inr (.inr (.inr f)))))) (hfg : ∀ i, i < N → f i = g i) (kk : BW K pc lv nL st (ws.set j (a, .inl (cA, N, .inr (.inr (.inr (.inr g)))))) tys ce sl) : BW K pc lv nL st ws tys ce sl := by
  intro H locs Ls hP hD hK hS hl
  refine kk H locs Ls (hP.set hD ha ?_ (fun _ _ => rfl)) (hD.set ha) hK hS hl
  have h := hP j _ ha
  show H[a]? = some (vp_cell _ _)
  have h2 : H[a]? = some (vp_cell cA (N, .inr (.inr (.inr (.inr f))))) := h
  rw [h2, vp_cell_q, vp_cell_q]
  exact congrArg some (arrV_cg (fun i hi => by rw [hfg i hi]))
end
theorem dX11_init_0 : decode cX11_init 0 = .ok (.aload_n 0, 1) := by decide +kernel
theorem dX11_init_1 : decode cX11_init 1 = .ok (.invokespecial 1, 3) := by decide +kernel
theorem dX11_init_4 : decode cX11_init 4 = .ok (.aload_n 0, 1) := by decide +kernel
theorem dX11_init_5 : decode cX11_init 5 = .ok (.new 7, 3) := by decide +kernel
theorem dX11_init_8 : decode cX11_init 8 = .ok (.dup, 1) := by decide +kernel
theorem dX11_init_9 : decode cX11_init 9 = .ok (.invokespecial 9, 3) := by decide +kernel
theorem dX11_init_12 : decode cX11_init 12 = .ok (.putfield 10, 3) := by decide +kernel
theorem dX11_init_15 : decode cX11_init 15 = .ok (.aload_n 0, 1) := by decide +kernel
theorem dX11_init_16 : decode cX11_init 16 = .ok (.new 16, 3) := by decide +kernel
theorem dX11_init_19 : decode cX11_init 19 = .ok (.dup, 1) := by decide +kernel
theorem dX11_init_20 : decode cX11_init 20 = .ok (.aload_n 0, 1) := by decide +kernel
theorem dX11_init_21 : decode cX11_init 21 = .ok (.getfield 10, 3) := by decide +kernel
theorem dX11_init_24 : decode cX11_init 24 = .ok (.invokespecial 18, 3) := by decide +kernel
theorem dX11_init_27 : decode cX11_init 27 = .ok (.putfield 21, 3) := by decide +kernel
theorem dX11_init_30 : decode cX11_init 30 = .ok (.aload_n 0, 1) := by decide +kernel
theorem dX11_init_31 : decode cX11_init 31 = .ok (.new 25, 3) := by decide +kernel
theorem dX11_init_34 : decode cX11_init 34 = .ok (.dup, 1) := by decide +kernel
theorem dX11_init_35 : decode cX11_init 35 = .ok (.aload_n 0, 1) := by decide +kernel
theorem dX11_init_36 : decode cX11_init 36 = .ok (.getfield 10, 3) := by decide +kernel
theorem dX11_init_39 : decode cX11_init 39 = .ok (.invokespecial 27, 3) := by decide +kernel
theorem dX11_init_42 : decode cX11_init 42 = .ok (.putfield 28, 3) := by decide +kernel
theorem dX11_init_45 : decode cX11_init 45 = .ok (.aload_n 0, 1) := by decide +kernel
theorem dX11_init_46 : decode cX11_init 46 = .ok (.iconst 4, 1) := by decide +kernel
theorem dX11_init_47 : decode cX11_init 47 = .ok (.anewarray 32, 3) := by decide +kernel
theorem dX11_init_50 : decode cX11_init 50 = .ok (.putfield 34, 3) := by decide +kernel
theorem dX11_init_53 : decode cX11_init 53 = .ok (.aload_n 0, 1) := by decide +kernel
theorem dX11_init_54 : decode cX11_init 54 = .ok (.new 38, 3) := by decide +kernel
theorem dX11_init_57 : decode cX11_init 57 = .ok (.dup, 1) := by decide +kernel
theorem dX11_init_58 : decode cX11_init 58 = .ok (.invokespecial 40, 3) := by decide +kernel
theorem dX11_init_61 : decode cX11_init 61 = .ok (.putfield 41, 3) := by decide +kernel
theorem dX11_init_64 : decode cX11_init 64 = .ok (.aload_n 0, 1) := by decide +kernel
theorem dX11_init_65 : decode cX11_init 65 = .ok (.new 45, 3) := by decide +kernel
theorem dX11_init_68 : decode cX11_init 68 = .ok (.dup, 1) := by decide +kernel
theorem dX11_init_69 : decode cX11_init 69 = .ok (.invokespecial 47, 3) := by decide +kernel
theorem dX11_init_72 : decode cX11_init 72 = .ok (.putfield 48, 3) := by decide +kernel
theorem dX11_init_75 : decode cX11_init 75 = .ok (.aload_n 0, 1) := by decide +kernel
theorem dX11_init_76 : decode cX11_init 76 = .ok (.new 45, 3) := by decide +kernel
theorem dX11_init_79 : decode cX11_init 79 = .ok (.dup, 1) := by decide +kernel
theorem dX11_init_80 : decode cX11_init 80 = .ok (.invokespecial 47, 3) := by decide +kernel
theorem dX11_init_83 : decode cX11_init 83 = .ok (.putfield 52, 3) := by decide +kernel
theorem dX11_init_86 : decode cX11_init 86 = .ok (.aload_n 0, 1) := by decide +kernel
theorem dX11_init_87 : decode cX11_init 87 = .ok (.new 55, 3) := by decide +kernel
theorem dX11_init_90 : decode cX11_init 90 = .ok (.dup, 1) := by decide +kernel
theorem dX11_init_91 : decode cX11_init 91 = .ok (.invokespecial 57, 3) := by decide +kernel
theorem dX11_init_94 : decode cX11_init 94 = .ok (.putfield 58, 3) := by decide +kernel
theorem dX11_init_97 : decode cX11_init 97 = .ok (.aload_n 0, 1) := by decide +kernel
theorem dX11_init_98 : decode cX11_init 98 = .ok (.new 62, 3) := by decide +kernel
theorem dX11_init_101 : decode cX11_init 101 = .ok (.dup, 1) := by decide +kernel
theorem dX11_init_102 : decode cX11_init 102 = .ok (.aload_n 0, 1) := by decide +kernel
theorem dX11_init_103 : decode cX11_init 103 = .ok (.getfield 41, 3) := by decide +kernel
theorem dX11_init_106 : decode cX11_init 106 = .ok (.invokespecial 64, 3) := by decide +kernel
theorem dX11_init_109 : decode cX11_init 109 = .ok (.putfield 67, 3) := by decide +kernel
theorem dX11_init_112 : decode cX11_init 112 = .ok (.aload_n 0, 1) := by decide +kernel
theorem dX11_init_113 : decode cX11_init 113 = .ok (.new 71, 3) := by decide +kernel
theorem dX11_init_116 : decode cX11_init 116 = .ok (.dup, 1) := by decide +kernel
theorem dX11_init_117 : decode cX11_init 117 = .ok (.aload_n 0, 1) := by decide +kernel
theorem dX11_init_118 : decode cX11_init 118 = .ok (.getfield 41, 3) := by decide +kernel
theorem dX11_init_121 : decode cX11_init 121 = .ok (.aload_n 0, 1) := by decide +kernel
theorem dX11_init_122 : decode cX11_init 122 = .ok (.getfield 67, 3) := by decide +kernel
theorem dX11_init_125 : decode cX11_init 125 = .ok (.invokespecial 73, 3) := by decide +kernel
theorem dX11_init_128 : decode cX11_init 128 = .ok (.putfield 76, 3) := by decide +kernel
theorem dX11_init_131 : decode cX11_init 131 = .ok (.aload_n 0, 1) := by decide +kernel
theorem dX11_init_132 : decode cX11_init 132 = .ok (.new 80, 3) := by decide +kernel
theorem dX11_init_135 : decode cX11_init 135 = .ok (.dup, 1) := by decide +kernel
theorem dX11_init_136 : decode cX11_init 136 = .ok (.aload_n 0, 1) := by decide +kernel
theorem dX11_init_137 : decode cX11_init 137 = .ok (.getfield 41, 3) := by decide +kernel
theorem dX11_init_140 : decode cX11_init 140 = .ok (.aload_n 0, 1) := by decide +kernel
theorem dX11_init_141 : decode cX11_init 141 = .ok (.getfield 67, 3) := by decide +kernel
theorem dX11_init_144 : decode cX11_init 144 = .ok (.invokespecial 82, 3) := by decide +kernel
theorem dX11_init_147 : decode cX11_init 147 = .ok (.putfield 83, 3) := by decide +kernel
theorem dX11_init_150 : decode cX11_init 150 = .ok (.aload_n 0, 1) := by decide +kernel
theorem dX11_init_151 : decode cX11_init 151 = .ok (.new 87, 3) := by decide +kernel
theorem dX11_init_154 : decode cX11_init 154 = .ok (.dup, 1) := by decide +kernel
theorem dX11_init_155 : decode cX11_init 155 = .ok (.aload_n 0, 1) := by decide +kernel
theorem dX11_init_156 : decode cX11_init 156 = .ok (.getfield 41, 3) := by decide +kernel
theorem dX11_init_159 : decode cX11_init 159 = .ok (.invokespecial 89, 3) := by decide +kernel
theorem dX11_init_162 : decode cX11_init 162 = .ok (.putfield 90, 3) := by decide +kernel
theorem dX11_init_165 : decode cX11_init 165 = .ok (.aload_n 0, 1) := by decide +kernel
theorem dX11_init_166 : decode cX11_init 166 = .ok (.iconst 5, 1) := by decide +kernel
theorem dX11_init_167 : decode cX11_init 167 = .ok (.newarray .int, 2) := by decide +kernel
theorem dX11_init_169 : decode cX11_init 169 = .ok (.putfield 94, 3) := by decide +kernel
theorem dX11_init_172 : decode cX11_init 172 = .ok (.aload_n 0, 1) := by decide +kernel
theorem dX11_init_173 : decode cX11_init 173 = .ok (.iconst 0, 1) := by decide +kernel
theorem dX11_init_174 : decode cX11_init 174 = .ok (.putfield 98, 3) := by decide +kernel
theorem dX11_init_177 : decode cX11_init 177 = .ok (.aload_n 0, 1) := by decide +kernel
theorem dX11_init_178 : decode cX11_init 178 = .ok (.iconst (-1), 1) := by decide +kernel
theorem dX11_init_179 : decode cX11_init 179 = .ok (.putfield 102, 3) := by decide +kernel
theorem dX11_init_182 : decode cX11_init 182 = .ok (.aload_n 0, 1) := by decide +kernel
theorem dX11_init_183 : decode cX11_init 183 = .ok (.iconst 1, 1) := by decide +kernel
theorem dX11_init_184 : decode cX11_init 184 = .ok (.putfield 105, 3) := by decide +kernel
theorem dX11_init_187 : decode cX11_init 187 = .ok (.aload_n 0, 1) := by decide +kernel
theorem dX11_init_188 : decode cX11_init 188 = .ok (.iconst 0, 1) := by decide +kernel
theorem dX11_init_189 : decode cX11_init 189 = .ok (.putfield 108, 3) := by decide +kernel
theorem dX11_init_192 : decode cX11_init 192 = .ok (.iconst 0, 1) := by decide +kernel
theorem dX11_init_193 : decode cX11_init 193 = .ok (.istore_n 1, 1) := by decide +kernel
theorem dX11_init_194 : decode cX11_init 194 = .ok (.iload_n 1, 1) := by decide +kernel
theorem dX11_init_195 : decode cX11_init 195 = .ok (.iconst 4, 1) := by decide +kernel
theorem dX11_init_196 : decode cX11_init 196 = .ok (.if_icmp .ge 22, 3) := by decide +kernel
theorem dX11_init_199 : decode cX11_init 199 = .ok (.aload_n 0, 1) := by decide +kernel
theorem dX11_init_200 : decode cX11_init 200 = .ok (.getfield 34, 3) := by decide +kernel
theorem dX11_init_203 : decode cX11_init 203 = .ok (.iload_n 1, 1) := by decide +kernel
theorem dX11_init_204 : decode cX11_init 204 = .ok (.new 32, 3) := by decide +kernel
theorem dX11_init_207 : decode cX11_init 207 = .ok (.dup, 1) := by decide +kernel
theorem dX11_init_208 : decode cX11_init 208 = .ok (.invokespecial 112, 3) := by decide +kernel
theorem dX11_init_211 : decode cX11_init 211 = .ok (.aastore, 1) := by decide +kernel
theorem dX11_init_212 : decode cX11_init 212 = .ok (.iinc 1 1, 3) := by decide +kernel
theorem dX11_init_215 : decode cX11_init 215 = .ok (.goto (-21), 3) := by decide +kernel
theorem dX11_init_218 : decode cX11_init 218 = .ok (.return_, 1) := by decide +kernel
set_option maxRecDepth 100000 in
theorem kX11_init : CkB yX11_init cX11_init 2 none 0 := ⟨(lw_t1 31 rfl rfl), (lw_t1 1 rfl rfl), by decide +kernel, by decide⟩
theorem kiX11_init : Cond.instanceMethod yX11_init ∈ lw_g := (lw_t1 30 rfl rfl)
theorem injC_all : ∀ i j : Fin 86, ([0, 83, 85, 84, 79, 81, 82, 80, 75, 76, 78, 77, 74, 10, 12, 11, 7, 9, 8, 4, 6, 5, 1, 3, 2, 72, 73, 70, 71, 68, 69, 26, 27, 28, 29, 30, 31, 32, 33, 34, 35, 36, 37, 38, 39, 40, 41, 42, 43, 44, 45, 46, 47, 48, 49, 50, 51, 52, 53, 54, 55, 56, 57, 58, 59, 60, 61, 62, 63, 64, 65, 66, 67, 23, 25, 24, 22, 18, 20, 21, 19, 14, 17, 16, 15, 13] : List Nat).getD i.val 0 = ([0, 83, 85, 84, 79, 81, 82, 80, 75, 76, 78, 77, 74, 10, 12, 11, 7, 9, 8, 4, 6, 5, 1, 3, 2, 72, 73, 70, 71, 68, 69, 26, 27, 28, 29, 30, 31, 32, 33, 34, 35, 36, 37, 38, 39, 40, 41, 42, 43, 44, 45, 46, 47, 48, 49, 50, 51, 52, 53, 54, 55, 56, 57, 58, 59, 60, 61, 62, 63, 64, 65, 66, 67, 23, 25, 24, 22, 18, 20, 21, 19, 14, 17, 16, 15, 13] : List Nat).getD j.val 0 → i.val = j.val := by decide +kernel
theorem injC (i j : Fin 86) (h : ([0, 83, 85, 84, 79, 81, 82, 80, 75, 76, 78, 77, 74, 10, 12, 11, 7, 9, 8, 4, 6, 5, 1, 3, 2, 72, 73, 70, 71, 68, 69, 26, 27, 28, 29, 30, 31, 32, 33, 34, 35, 36, 37, 38, 39, 40, 41, 42, 43, 44, 45, 46, 47, 48, 49, 50, 51, 52, 53, 54, 55, 56, 57, 58, 59, 60, 61, 62, 63, 64, 65, 66, 67, 23, 25, 24, 22, 18, 20, 21, 19, 14, 17, 16, 15, 13] : List Nat).getD i.val 0 = ([0, 83, 85, 84, 79, 81, 82, 80, 75, 76, 78, 77, 74, 10, 12, 11, 7, 9, 8, 4, 6, 5, 1, 3, 2, 72, 73, 70, 71, 68, 69, 26, 27, 28, 29, 30, 31, 32, 33, 34, 35, 36, 37, 38, 39, 40, 41, 42, 43, 44, 45, 46, 47, 48, 49, 50, 51, 52, 53, 54, 55, 56, 57, 58, 59, 60, 61, 62, 63, 64, 65, 66, 67, 23, 25, 24, 22, 18, 20, 21, 19, 14, 17, 16, 15, 13] : List Nat).getD j.val 0) : i.val = j.val := injC_all i j h
set_option maxHeartbeats 2000000 in
set_option maxRecDepth 200000 in
theorem cnX11 : CtN 3 85 7329 yX11_init cX11_init 2 11 [.null, .null, .null, .null, .null, .null, .null, .null, .null, .null, .null, .null, .null, .int 0, .int 0, .int 0, .int 0] [] RSX11 := by
  refine ctn_intro RX11 (fun h0 => [(0, .ref h0)]) (by decide) rfl rfl (fun _ => rfl) (fun _ => Nat.le_of_ble_eq_true rfl) (fun K h0 hO hRS => ?_)
  refine bw_aload 0 hO dX11_init_0 rfl rfl ?_
  refine bw_obj hO dX11_init_1 rfl (lw_t1 32 rfl rfl) objW (by decide) ?_
  refine bw_aload 0 hO dX11_init_4 rfl rfl ?_
  refine bw_new (fs := [.null, .null, .int 0, .int 0, .int 0]) hO dX11_init_5 rfl okX8 tyX8_ok (lw_t1 35 rfl rfl) (lw_t1 36 rfl rfl) (lw_t1 2 rfl rfl) (by decide) (by decide) (by decide) (fun q0 => ?_)
  refine bw_n1 ?_
  refine bw_dup hO dX11_init_8 rfl ?_
  refine bw_a1 ?_
  refine bw_callN (As := []) hO dX11_init_9 rfl (lw_t1n 37 rfl rfl) kX8_init rfl kiX8_init (cnX8) (by decide) rfl (Nat.le_of_ble_eq_true rfl) (by decide) (by decide) (fun w ty hrs => ?_)
  obtain ⟨q0_1, q1_1, c1_1, c0_1, rfl, rfl⟩ := hrs
  refine bw_cv ?_
  refine bw_put (f := 0) (fs' := [.ref q0, .null, .null, .null, .null, .null, .null, .null, .null, .null, .null, .null, .null, .int 0, .int 0, .int 0, .int 0]) hO dX11_init_12 rfl okX11 tyX11_ok nmX11 (by decide) (lw_t2 45 rfl rfl) rfl rfl rfl (Nat.le_of_ble_eq_true rfl) rfl ?_
  refine bw_aload 0 hO dX11_init_15 rfl rfl ?_
  refine bw_new (fs := [.null, .null, .null]) hO dX11_init_16 rfl okX10 tyX10_ok (lw_t1 63 rfl rfl) (lw_t1 64 rfl rfl) (lw_t1 3 rfl rfl) (by decide) (by decide) (by decide) (fun q2 => ?_)
  refine bw_n1 ?_
  refine bw_dup hO dX11_init_19 rfl ?_
  refine bw_aload 0 hO dX11_init_20 rfl rfl ?_
  refine bw_get (f := 0) hO dX11_init_21 rfl okX11 (by decide) (lw_t2 45 rfl rfl) rfl ?_
  refine bw_a1 ?_
  refine bw_call (As := [.ref q0]) hO dX11_init_24 rfl (lw_t1 65 rfl rfl) kX10_init rfl kiX10_init (cnX10 q0) (by decide) rfl (Nat.le_of_ble_eq_true rfl) (by decide) (by decide) (fun w ty hrs => ?_)
  obtain ⟨q0_3, q2_3, c2_3, q0_1_3, c0_1_3, rfl, rfl⟩ := hrs
  refine bw_cv ?_
  refine bw_put (f := 1) (fs' := [.ref q0, .ref q2, .null, .null, .null, .null, .null, .null, .null, .null, .null, .null, .null, .int 0, .int 0, .int 0, .int 0]) hO dX11_init_27 rfl okX11 tyX11_ok nmX11 (by decide) (lw_t2 46 rfl rfl) rfl rfl rfl (Nat.le_of_ble_eq_true rfl) rfl ?_
  refine bw_aload 0 hO dX11_init_30 rfl rfl ?_
  refine bw_new (fs := [.null, .null]) hO dX11_init_31 rfl okX5 tyX5_ok (lw_t1 108 rfl rfl) (lw_t1 109 rfl rfl) (lw_t1 5 rfl rfl) (by decide) (by decide) (by decide) (fun q4 => ?_)
  refine bw_n1 ?_
  refine bw_dup hO dX11_init_34 rfl ?_
  refine bw_aload 0 hO dX11_init_35 rfl rfl ?_
  refine bw_get (f := 0) hO dX11_init_36 rfl okX11 (by decide) (lw_t2 45 rfl rfl) rfl ?_
  refine bw_a1 ?_
  refine bw_call (As := [.ref q0]) hO dX11_init_39 rfl (lw_t1 110 rfl rfl) kX5_init rfl kiX5_init (cnX5 q0) (by decide) rfl (Nat.le_of_ble_eq_true rfl) (by decide) (by decide) (fun w ty hrs => ?_)
  obtain ⟨q0_5, q0_1_5, q1_1_5, c1_1_5, c0_1_5, rfl, rfl⟩ := hrs
  refine bw_cv ?_
  refine bw_put (f := 2) (fs' := [.ref q0, .ref q2, .ref q4, .null, .null, .null, .null, .null, .null, .null, .null, .null, .null, .int 0, .int 0, .int 0, .int 0]) hO dX11_init_42 rfl okX11 tyX11_ok nmX11 (by decide) (lw_t2 47 rfl rfl) rfl rfl rfl (Nat.le_of_ble_eq_true rfl) rfl ?_
  refine bw_aload 0 hO dX11_init_45 rfl rfl ?_
  refine bw_iconst hO dX11_init_46 rfl ?_
  refine bw_newq (N := 4) hO dX11_init_47 rfl (lw_t1 139 rfl rfl) hO.2.2.2.1.2.2.1 rfl (by decide) (by decide) (by decide) (fun q6 c6 => ?_)
  refine bw_c1 ?_
  refine bw_put (f := 3) (fs' := [.ref q0, .ref q2, .ref q4, .ref q6, .null, .null, .null, .null, .null, .null, .null, .null, .null, .int 0, .int 0, .int 0, .int 0]) hO dX11_init_50 rfl okX11 tyX11_ok nmX11 (by decide) (lw_t2 48 rfl rfl) rfl rfl rfl (Nat.le_of_ble_eq_true rfl) rfl ?_
  refine bw_aload 0 hO dX11_init_53 rfl rfl ?_
  refine bw_new (fs := [.null, .int 0, .int 0]) hO dX11_init_54 rfl okX9 tyX9_ok (lw_t1 141 rfl rfl) (lw_t1 70 rfl rfl) (lw_t1 4 rfl rfl) (by decide) (by decide) (by decide) (fun q7 => ?_)
  refine bw_n1 ?_
  refine bw_dup hO dX11_init_57 rfl ?_
  refine bw_a1 ?_
  refine bw_callN (As := []) hO dX11_init_58 rfl (lw_t1n 142 rfl rfl) kX9_init rfl kiX9_init (cnX9) (by decide) rfl (Nat.le_of_ble_eq_true rfl) (by decide) (by decide) (fun w ty hrs => ?_)
  obtain ⟨q0_8, c0_8, rfl, rfl⟩ := hrs
  refine bw_cv ?_
  refine bw_put (f := 4) (fs' := [.ref q0, .ref q2, .ref q4, .ref q6, .ref q7, .null, .null, .null, .null, .null, .null, .null, .null, .int 0, .int 0, .int 0, .int 0]) hO dX11_init_61 rfl okX11 tyX11_ok nmX11 (by decide) (lw_t2 49 rfl rfl) rfl rfl rfl (Nat.le_of_ble_eq_true rfl) rfl ?_
  refine bw_aload 0 hO dX11_init_64 rfl rfl ?_
  refine bw_new (fs := [.null]) hO dX11_init_65 rfl okX7 tyX7_ok (lw_t1 143 rfl rfl) (lw_t1 144 rfl rfl) (lw_t1 7 rfl rfl) (by decide) (by decide) (by decide) (fun q9 => ?_)
  refine bw_n1 ?_
  refine bw_dup hO dX11_init_68 rfl ?_
  refine bw_a1 ?_
  refine bw_callN (As := []) hO dX11_init_69 rfl (lw_t1n 145 rfl rfl) kX7_init rfl kiX7_init (cnX7) (by decide) rfl (Nat.le_of_ble_eq_true rfl) (by decide) (by decide) (fun w ty hrs => ?_)
  obtain ⟨q0_10, c0_10, rfl, rfl⟩ := hrs
  refine bw_cv ?_
  refine bw_put (f := 5) (fs' := [.ref q0, .ref q2, .ref q4, .ref q6, .ref q7, .ref q9, .null, .null, .null, .null, .null, .null, .null, .int 0, .int 0, .int 0, .int 0]) hO dX11_init_72 rfl okX11 tyX11_ok nmX11 (by decide) (lw_t2 50 rfl rfl) rfl rfl rfl (Nat.le_of_ble_eq_true rfl) rfl ?_
  refine bw_aload 0 hO dX11_init_75 rfl rfl ?_
  refine bw_new (fs := [.null]) hO dX11_init_76 rfl okX7 tyX7_ok (lw_t1 143 rfl rfl) (lw_t1 144 rfl rfl) (lw_t1 7 rfl rfl) (by decide) (by decide) (by decide) (fun q11 => ?_)
  refine bw_n1 ?_
  refine bw_dup hO dX11_init_79 rfl ?_
  refine bw_a1 ?_
  refine bw_callN (As := []) hO dX11_init_80 rfl (lw_t1n 145 rfl rfl) kX7_init rfl kiX7_init (cnX7) (by decide) rfl (Nat.le_of_ble_eq_true rfl) (by decide) (by decide) (fun w ty hrs => ?_)
  obtain ⟨q0_12, c0_12, rfl, rfl⟩ := hrs
  refine bw_cv ?_
  refine bw_put (f := 6) (fs' := [.ref q0, .ref q2, .ref q4, .ref q6, .ref q7, .ref q9, .ref q11, .null, .null, .null, .null, .null, .null, .int 0, .int 0, .int 0, .int 0]) hO dX11_init_83 rfl okX11 tyX11_ok nmX11 (by decide) (lw_t2 51 rfl rfl) rfl rfl rfl (Nat.le_of_ble_eq_true rfl) rfl ?_
  refine bw_aload 0 hO dX11_init_86 rfl rfl ?_
  refine bw_new (fs := [.null, .int 0, .int 0]) hO dX11_init_87 rfl okX0 tyX0_ok (lw_t1 158 rfl rfl) (lw_t1 159 rfl rfl) (lw_t1 8 rfl rfl) (by decide) (by decide) (by decide) (fun q13 => ?_)
  refine bw_n1 ?_
  refine bw_dup hO dX11_init_90 rfl ?_
  refine bw_a1 ?_
  refine bw_callN (As := []) hO dX11_init_91 rfl (lw_t1n 160 rfl rfl) kX0_init rfl kiX0_init (cnX0) (by decide) rfl (Nat.le_of_ble_eq_true rfl) (by decide) (by decide) (fun w ty hrs => ?_)
  obtain ⟨q0_14, cA_14, cB_14, rfl, rfl⟩ := hrs
  refine bw_cv ?_
  refine bw_put (f := 7) (fs' := [.ref q0, .ref q2, .ref q4, .ref q6, .ref q7, .ref q9, .ref q11, .ref q13, .null, .null, .null, .null, .null, .int 0, .int 0, .int 0, .int 0]) hO dX11_init_94 rfl okX11 tyX11_ok nmX11 (by decide) (lw_t2 52 rfl rfl) rfl rfl rfl (Nat.le_of_ble_eq_true rfl) rfl ?_
  refine bw_aload 0 hO dX11_init_97 rfl rfl ?_
  refine bw_new (fs := [.null, .null, .null, .null]) hO dX11_init_98 rfl okX3 tyX3_ok (lw_t1 177 rfl rfl) (lw_t1 178 rfl rfl) (lw_t1 9 rfl rfl) (by decide) (by decide) (by decide) (fun q15 => ?_)
  refine bw_n1 ?_
  refine bw_dup hO dX11_init_101 rfl ?_
  refine bw_aload 0 hO dX11_init_102 rfl rfl ?_
  refine bw_get (f := 4) hO dX11_init_103 rfl okX11 (by decide) (lw_t2 49 rfl rfl) rfl ?_
  refine bw_a1 ?_
  refine bw_call (As := [.ref q7]) hO dX11_init_106 rfl (lw_t1 179 rfl rfl) kX3_init rfl kiX3_init (cnX3 q7) (by decide) rfl (Nat.le_of_ble_eq_true rfl) (by decide) (by decide) (fun w ty hrs => ?_)
  obtain ⟨q0_16, q1_16, c1_16, c0_16, rfl, rfl⟩ := hrs
  refine bw_cv ?_
  refine bw_put (f := 8) (fs' := [.ref q0, .ref q2, .ref q4, .ref q6, .ref q7, .ref q9, .ref q11, .ref q13, .ref q15, .null, .null, .null, .null, .int 0, .int 0, .int 0, .int 0]) hO dX11_init_109 rfl okX11 tyX11_ok nmX11 (by decide) (lw_t2 53 rfl rfl) rfl rfl rfl (Nat.le_of_ble_eq_true rfl) rfl ?_
  refine bw_aload 0 hO dX11_init_112 rfl rfl ?_
  refine bw_new (fs := [.null, .null, .long 0]) hO dX11_init_113 rfl okX1 tyX1_ok (lw_t1 210 rfl rfl) (lw_t1 211 rfl rfl) (lw_t1 11 rfl rfl) (by decide) (by decide) (by decide) (fun q17 => ?_)
  refine bw_n1 ?_
  refine bw_dup hO dX11_init_116 rfl ?_
  refine bw_aload 0 hO dX11_init_117 rfl rfl ?_
  refine bw_get (f := 4) hO dX11_init_118 rfl okX11 (by decide) (lw_t2 49 rfl rfl) rfl ?_
  refine bw_aload 0 hO dX11_init_121 rfl rfl ?_
  refine bw_get (f := 8) hO dX11_init_122 rfl okX11 (by decide) (lw_t2 53 rfl rfl) rfl ?_
  refine bw_a1 ?_
  refine bw_call (As := [.ref q7, .ref q15]) hO dX11_init_125 rfl (lw_t1 212 rfl rfl) kX1_init rfl kiX1_init (cnX1 q7 q15) (by decide) rfl (Nat.le_of_ble_eq_true rfl) (by decide) (by decide) (fun w ty hrs => ?_)
  obtain ⟨rfl, rfl⟩ := hrs
  refine bw_cv ?_
  refine bw_put (f := 9) (fs' := [.ref q0, .ref q2, .ref q4, .ref q6, .ref q7, .ref q9, .ref q11, .ref q13, .ref q15, .ref q17, .null, .null, .null, .int 0, .int 0, .int 0, .int 0]) hO dX11_init_128 rfl okX11 tyX11_ok nmX11 (by decide) (lw_t2 54 rfl rfl) rfl rfl rfl (Nat.le_of_ble_eq_true rfl) rfl ?_
  refine bw_aload 0 hO dX11_init_131 rfl rfl ?_
  refine bw_new (fs := [.null, .null, .null, .null, .int 0, .int 0]) hO dX11_init_132 rfl okX6 tyX6_ok (lw_t1 227 rfl rfl) (lw_t1 228 rfl rfl) (lw_t1 12 rfl rfl) (by decide) (by decide) (by decide) (fun q19 => ?_)
  refine bw_n1 ?_
  refine bw_dup hO dX11_init_135 rfl ?_
  refine bw_aload 0 hO dX11_init_136 rfl rfl ?_
  refine bw_get (f := 4) hO dX11_init_137 rfl okX11 (by decide) (lw_t2 49 rfl rfl) rfl ?_
  refine bw_aload 0 hO dX11_init_140 rfl rfl ?_
  refine bw_get (f := 8) hO dX11_init_141 rfl okX11 (by decide) (lw_t2 53 rfl rfl) rfl ?_
  refine bw_a1 ?_
  refine bw_call (As := [.ref q7, .ref q15]) hO dX11_init_144 rfl (lw_t1 229 rfl rfl) kX6_init rfl kiX6_init (cnX6 q7 q15) (by decide) rfl (Nat.le_of_ble_eq_true rfl) (by decide) (by decide) (fun w ty hrs => ?_)
  obtain ⟨q0_20, q2_20, c2_20, q0_1_20, c0_1_20, rfl, rfl⟩ := hrs
  refine bw_cv ?_
  refine bw_put (f := 10) (fs' := [.ref q0, .ref q2, .ref q4, .ref q6, .ref q7, .ref q9, .ref q11, .ref q13, .ref q15, .ref q17, .ref q19, .null, .null, .int 0, .int 0, .int 0, .int 0]) hO dX11_init_147 rfl okX11 tyX11_ok nmX11 (by decide) (lw_t2 55 rfl rfl) rfl rfl rfl (Nat.le_of_ble_eq_true rfl) rfl ?_
  refine bw_aload 0 hO dX11_init_150 rfl rfl ?_
  refine bw_new (fs := [.null, .null, .null, .null, .int 0, .int 0]) hO dX11_init_151 rfl okX2 tyX2_ok (lw_t2 16 rfl rfl) (lw_t2 17 rfl rfl) (lw_t1 13 rfl rfl) (by decide) (by decide) (by decide) (fun q21 => ?_)
  refine bw_n1 ?_
  refine bw_dup hO dX11_init_154 rfl ?_
  refine bw_aload 0 hO dX11_init_155 rfl rfl ?_
  refine bw_get (f := 4) hO dX11_init_156 rfl okX11 (by decide) (lw_t2 49 rfl rfl) rfl ?_
  refine bw_a1 ?_
  refine bw_call (As := [.ref q7]) hO dX11_init_159 rfl (lw_t2 18 rfl rfl) kX2_init rfl kiX2_init (cnX2 q7) (by decide) rfl (Nat.le_of_ble_eq_true rfl) (by decide) (by decide) (fun w ty hrs => ?_)
  obtain ⟨q0_22, q1_22, q2_22, c2_22, c1_22, c0_22, rfl, rfl⟩ := hrs
  refine bw_cv ?_
  refine bw_put (f := 11) (fs' := [.ref q0, .ref q2, .ref q4, .ref q6, .ref q7, .ref q9, .ref q11, .ref q13, .ref q15, .ref q17, .ref q19, .ref q21, .null, .int 0, .int 0, .int 0, .int 0]) hO dX11_init_162 rfl okX11 tyX11_ok nmX11 (by decide) (lw_t2 56 rfl rfl) rfl rfl rfl (Nat.le_of_ble_eq_true rfl) rfl ?_
  refine bw_aload 0 hO dX11_init_165 rfl rfl ?_
  refine bw_iconst hO dX11_init_166 rfl ?_
  refine bw_newa (N := 5) hO dX11_init_167 rfl (lw_t1 62 rfl rfl) rfl rfl rfl (by decide) (by decide) (by decide) (by decide) (fun q23 c23 => ?_)
  refine bw_c1 ?_
  refine bw_put (f := 12) (fs' := [.ref q0, .ref q2, .ref q4, .ref q6, .ref q7, .ref q9, .ref q11, .ref q13, .ref q15, .ref q17, .ref q19, .ref q21, .ref q23, .int 0, .int 0, .int 0, .int 0]) hO dX11_init_169 rfl okX11 tyX11_ok nmX11 (by decide) (lw_t2 57 rfl rfl) rfl rfl rfl (Nat.le_of_ble_eq_true rfl) rfl ?_
  refine bw_aload 0 hO dX11_init_172 rfl rfl ?_
  refine bw_iconst hO dX11_init_173 rfl ?_
  refine bw_put (f := 13) (fs' := [.ref q0, .ref q2, .ref q4, .ref q6, .ref q7, .ref q9, .ref q11, .ref q13, .ref q15, .ref q17, .ref q19, .ref q21, .ref q23, .int (iI 0), .int 0, .int 0, .int 0]) hO dX11_init_174 rfl okX11 tyX11_ok nmX11 (by decide) (lw_t2 58 rfl rfl) rfl rfl rfl (Nat.le_of_ble_eq_true rfl) rfl ?_
  refine bw_aload 0 hO dX11_init_177 rfl rfl ?_
  refine bw_iconst hO dX11_init_178 rfl ?_
  refine bw_put (f := 14) (fs' := [.ref q0, .ref q2, .ref q4, .ref q6, .ref q7, .ref q9, .ref q11, .ref q13, .ref q15, .ref q17, .ref q19, .ref q21, .ref q23, .int (iI 0), .int (iI (-1)), .int 0, .int 0]) hO dX11_init_179 rfl okX11 tyX11_ok nmX11 (by decide) (lw_t2 59 rfl rfl) rfl rfl rfl (Nat.le_of_ble_eq_true rfl) rfl ?_
  refine bw_aload 0 hO dX11_init_182 rfl rfl ?_
  refine bw_iconst hO dX11_init_183 rfl ?_
  refine bw_put (f := 15) (fs' := [.ref q0, .ref q2, .ref q4, .ref q6, .ref q7, .ref q9, .ref q11, .ref q13, .ref q15, .ref q17, .ref q19, .ref q21, .ref q23, .int (iI 0), .int (iI (-1)), .int (iI 1), .int 0]) hO dX11_init_184 rfl okX11 tyX11_ok nmX11 (by decide) (lw_t2 60 rfl rfl) rfl rfl rfl (Nat.le_of_ble_eq_true rfl) rfl ?_
  refine bw_aload 0 hO dX11_init_187 rfl rfl ?_
  refine bw_iconst hO dX11_init_188 rfl ?_
  refine bw_put (f := 16) (fs' := [.ref q0, .ref q2, .ref q4, .ref q6, .ref q7, .ref q9, .ref q11, .ref q13, .ref q15, .ref q17, .ref q19, .ref q21, .ref q23, .int (iI 0), .int (iI (-1)), .int (iI 1), .int (iI 0)]) hO dX11_init_189 rfl okX11 tyX11_ok nmX11 (by decide) (lw_t2 61 rfl rfl) rfl rfl rfl (Nat.le_of_ble_eq_true rfl) rfl ?_
  refine bw_iconst hO dX11_init_192 rfl ?_
  refine bw_istore (lv' := [(1, .int (iI 0)), (0, .ref h0)]) hO dX11_init_193 rfl (by decide) rfl ?_
  refine bw_iload 0 hO dX11_init_194 rfl rfl ?_
  refine bw_iconst hO dX11_init_195 rfl ?_
  refine bw_geF (tgt := 218) hO dX11_init_196 rfl rfl (by decide) ?_
  refine bw_aload 1 hO dX11_init_199 rfl rfl ?_
  refine bw_get (f := 3) hO dX11_init_200 rfl okX11 (by decide) (lw_t2 48 rfl rfl) rfl ?_
  refine bw_iload 0 hO dX11_init_203 rfl rfl ?_
  refine bw_new (fs := [.null, .null, .int 0]) hO dX11_init_204 rfl okX4 tyX4_ok (lw_t1 139 rfl rfl) (lw_t1 115 rfl rfl) (lw_t1 6 rfl rfl) (by decide) (by decide) (by decide) (fun ql0 => ?_)
  refine bw_n1 ?_
  refine bw_dup hO dX11_init_207 rfl ?_
  refine bw_a1 ?_
  refine bw_callN (As := []) hO dX11_init_208 rfl (lw_t2n 44 rfl rfl) kX4_init rfl kiX4_init cnX4 (by decide) rfl (Nat.le_of_ble_eq_true rfl) (by decide) (by decide) (fun w ty hrs => ?_)
  obtain ⟨q0_l0, q1_l0, c1_l0, c0_l0, rfl, rfl⟩ := hrs
  refine bw_cv ?_
  refine bw_astq (q0 := 65) (t0 := 15) (qk := 1) (ci := 4) (N := 4) (i := 0) hO dX11_init_211 rfl rfl rfl rfl rfl rfl (by decide) (by decide) ?_
  refine bw_cs ?_
  refine bw_iinc (k := 0) (lv' := [(1, .int (iI 1)), (0, .ref h0)]) hO dX11_init_212 rfl rfl (by decide) (by decide) rfl ?_
  refine bw_goto (tgt := 194) hO dX11_init_215 rfl ?_
  refine bw_iload 0 hO dX11_init_194 rfl rfl ?_
  refine bw_iconst hO dX11_init_195 rfl ?_
  refine bw_geF (tgt := 218) hO dX11_init_196 rfl rfl (by decide) ?_
  refine bw_aload 1 hO dX11_init_199 rfl rfl ?_
  refine bw_get (f := 3) hO dX11_init_200 rfl okX11 (by decide) (lw_t2 48 rfl rfl) rfl ?_
  refine bw_iload 0 hO dX11_init_203 rfl rfl ?_
  refine bw_new (fs := [.null, .null, .int 0]) hO dX11_init_204 rfl okX4 tyX4_ok (lw_t1 139 rfl rfl) (lw_t1 115 rfl rfl) (lw_t1 6 rfl rfl) (by decide) (by decide) (by decide) (fun ql1 => ?_)
  refine bw_n1 ?_
  refine bw_dup hO dX11_init_207 rfl ?_
  refine bw_a1 ?_
  refine bw_callN (As := []) hO dX11_init_208 rfl (lw_t2n 44 rfl rfl) kX4_init rfl kiX4_init cnX4 (by decide) rfl (Nat.le_of_ble_eq_true rfl) (by decide) (by decide) (fun w ty hrs => ?_)
  obtain ⟨q0_l1, q1_l1, c1_l1, c0_l1, rfl, rfl⟩ := hrs
  refine bw_cv ?_
  refine bw_astq (q0 := 68) (t0 := 17) (qk := 1) (ci := 4) (N := 4) (i := 1) hO dX11_init_211 rfl rfl rfl rfl rfl rfl (by decide) (by decide) ?_
  refine bw_cs ?_
  refine bw_iinc (k := 0) (lv' := [(1, .int (iI 2)), (0, .ref h0)]) hO dX11_init_212 rfl rfl (by decide) (by decide) rfl ?_
  refine bw_goto (tgt := 194) hO dX11_init_215 rfl ?_
  refine bw_iload 0 hO dX11_init_194 rfl rfl ?_
  refine bw_iconst hO dX11_init_195 rfl ?_
  refine bw_geF (tgt := 218) hO dX11_init_196 rfl rfl (by decide) ?_
  refine bw_aload 1 hO dX11_init_199 rfl rfl ?_
  refine bw_get (f := 3) hO dX11_init_200 rfl okX11 (by decide) (lw_t2 48 rfl rfl) rfl ?_
  refine bw_iload 0 hO dX11_init_203 rfl rfl ?_
  refine bw_new (fs := [.null, .null, .int 0]) hO dX11_init_204 rfl okX4 tyX4_ok (lw_t1 139 rfl rfl) (lw_t1 115 rfl rfl) (lw_t1 6 rfl rfl) (by decide) (by decide) (by decide) (fun ql2 => ?_)
  refine bw_n1 ?_
  refine bw_dup hO dX11_init_207 rfl ?_
  refine bw_a1 ?_
  refine bw_callN (As := []) hO dX11_init_208 rfl (lw_t2n 44 rfl rfl) kX4_init rfl kiX4_init cnX4 (by decide) rfl (Nat.le_of_ble_eq_true rfl) (by decide) (by decide) (fun w ty hrs => ?_)
  obtain ⟨q0_l2, q1_l2, c1_l2, c0_l2, rfl, rfl⟩ := hrs
  refine bw_cv ?_
  refine bw_astq (q0 := 71) (t0 := 19) (qk := 1) (ci := 4) (N := 4) (i := 2) hO dX11_init_211 rfl rfl rfl rfl rfl rfl (by decide) (by decide) ?_
  refine bw_cs ?_
  refine bw_iinc (k := 0) (lv' := [(1, .int (iI 3)), (0, .ref h0)]) hO dX11_init_212 rfl rfl (by decide) (by decide) rfl ?_
  refine bw_goto (tgt := 194) hO dX11_init_215 rfl ?_
  refine bw_iload 0 hO dX11_init_194 rfl rfl ?_
  refine bw_iconst hO dX11_init_195 rfl ?_
  refine bw_geF (tgt := 218) hO dX11_init_196 rfl rfl (by decide) ?_
  refine bw_aload 1 hO dX11_init_199 rfl rfl ?_
  refine bw_get (f := 3) hO dX11_init_200 rfl okX11 (by decide) (lw_t2 48 rfl rfl) rfl ?_
  refine bw_iload 0 hO dX11_init_203 rfl rfl ?_
  refine bw_new (fs := [.null, .null, .int 0]) hO dX11_init_204 rfl okX4 tyX4_ok (lw_t1 139 rfl rfl) (lw_t1 115 rfl rfl) (lw_t1 6 rfl rfl) (by decide) (by decide) (by decide) (fun ql3 => ?_)
  refine bw_n1 ?_
  refine bw_dup hO dX11_init_207 rfl ?_
  refine bw_a1 ?_
  refine bw_callN (As := []) hO dX11_init_208 rfl (lw_t2n 44 rfl rfl) kX4_init rfl kiX4_init cnX4 (by decide) rfl (Nat.le_of_ble_eq_true rfl) (by decide) (by decide) (fun w ty hrs => ?_)
  obtain ⟨q0_l3, q1_l3, c1_l3, c0_l3, rfl, rfl⟩ := hrs
  refine bw_cv ?_
  refine bw_astq (q0 := 74) (t0 := 21) (qk := 1) (ci := 4) (N := 4) (i := 3) hO dX11_init_211 rfl rfl rfl rfl rfl rfl (by decide) (by decide) ?_
  refine bw_cs ?_
  refine bw_iinc (k := 0) (lv' := [(1, .int (iI 4)), (0, .ref h0)]) hO dX11_init_212 rfl rfl (by decide) (by decide) rfl ?_
  refine bw_goto (tgt := 194) hO dX11_init_215 rfl ?_
  refine bw_iload 0 hO dX11_init_194 rfl rfl ?_
  refine bw_iconst hO dX11_init_195 rfl ?_
  refine bw_geT (tgt := 218) hO dX11_init_196 rfl (by decide) ?_
  refine bw_refx 74 (fun i => some ((qCf [h0, q0, q0_1, q1_1, q2, q0_3, q0_1_3, q2_3, q4, q0_5, q0_1_5, q1_1_5, q6, ql0, q0_l0, q1_l0, ql1, q0_l1, q1_l1, ql2, q0_l2, q1_l2, ql3, q0_l3, q1_l3, q7, q0_8, q9, q0_10, q11, q0_12, q13, q0_14] [q15, q0_16, q1_16, q17, q19, q0_20, q0_1_20, q2_20, q21, q0_22, q1_22, q2_22, q23] q0_14 K.q) (13 + 3 * i))) rfl (fun i hi => by
    match i, hi with
    | 0, _ => rfl
    | 1, _ => rfl
    | 2, _ => rfl
    | 3, _ => rfl) ?_
  refine bw_refx 27 (fun i => some ((qCf [h0, q0, q0_1, q1_1, q2, q0_3, q0_1_3, q2_3, q4, q0_5, q0_1_5, q1_1_5, q6, ql0, q0_l0, q1_l0, ql1, q0_l1, q1_l1, ql2, q0_l2, q1_l2, ql3, q0_l3, q1_l3, q7, q0_8, q9, q0_10, q11, q0_12, q13, q0_14] [q15, q0_16, q1_16, q17, q19, q0_20, q0_1_20, q2_20, q21, q0_22, q1_22, q2_22, q23] q0_14 K.q) (33 + i))) rfl (fun i hi => by
    unfold qCf
    rw [if_neg (by omega), if_pos (by omega)]
    congr 1
    omega) ?_
  refine bw_wld (P := PC) (q := (qCf [h0, q0, q0_1, q1_1, q2, q0_3, q0_1_3, q2_3, q4, q0_5, q0_1_5, q1_1_5, q6, ql0, q0_l0, q1_l0, ql1, q0_l1, q1_l1, ql2, q0_l2, q1_l2, ql3, q0_l3, q1_l3, q7, q0_8, q9, q0_10, q11, q0_12, q13, q0_14] [q15, q0_16, q1_16, q17, q19, q0_20, q0_1_20, q2_20, q21, q0_22, q1_22, q2_22, q23] q0_14 K.q)) (ca := (caCf [c1_1, c1_1, c0_1, c1_1, c1_1, c1_1, c0_1_3, c2_3, c1_1, c1_1, c0_1_5, c1_1_5, c6, c1_1, c0_l0, c1_l0, c1_1, c0_l1, c1_l1, c1_1, c0_l2, c1_l2, c1_1, c0_l3, c1_l3, c1_1, c0_8, c1_1, c0_10, c1_1, c0_12, c1_1, cA_14] [c1_1, c0_16, c1_16, c1_1, c1_1, c1_1, c0_1_20, c2_20, c1_1, c0_22, c1_22, c2_22, c23] cB_14 c1_1)) (μ := mu0) (fun k => [0, 83, 85, 84, 79, 81, 82, 80, 75, 76, 78, 77, 74, 10, 12, 11, 7, 9, 8, 4, 6, 5, 1, 3, 2, 72, 73, 70, 71, 68, 69, 26, 27, 28, 29, 30, 31, 32, 33, 34, 35, 36, 37, 38, 39, 40, 41, 42, 43, 44, 45, 46, 47, 48, 49, 50, 51, 52, 53, 54, 55, 56, 57, 58, 59, 60, 61, 62, 63, 64, 65, 66, 67, 23, 25, 24, 22, 18, 20, 21, 19, 14, 17, 16, 15, 13].getD k 0) (fun k hk => by
    match k, hk with
    | 0, _ => rfl
    | 1, _ => rfl
    | 2, _ => rfl
    | 3, _ => rfl
    | 4, _ => rfl
    | 5, _ => rfl
    | 6, _ => rfl
    | 7, _ => rfl
    | 8, _ => rfl
    | 9, _ => rfl
    | 10, _ => rfl
    | 11, _ => rfl
    | 12, _ => rfl
    | 13, _ => rfl
    | 14, _ => rfl
    | 15, _ => rfl
    | 16, _ => rfl
    | 17, _ => rfl
    | 18, _ => rfl
    | 19, _ => rfl
    | 20, _ => rfl
    | 21, _ => rfl
    | 22, _ => rfl
    | 23, _ => rfl
    | 24, _ => rfl
    | 25, _ => rfl
    | 26, _ => rfl
    | 27, _ => rfl
    | 28, _ => rfl
    | 29, _ => rfl
    | 30, _ => rfl
    | 31, _ => rfl
    | 32, _ => rfl
    | 33, _ => rfl
    | 34, _ => rfl
    | 35, _ => rfl
    | 36, _ => rfl
    | 37, _ => rfl
    | 38, _ => rfl
    | 39, _ => rfl
    | 40, _ => rfl
    | 41, _ => rfl
    | 42, _ => rfl
    | 43, _ => rfl
    | 44, _ => rfl
    | 45, _ => rfl
    | 46, _ => rfl
    | 47, _ => rfl
    | 48, _ => rfl
    | 49, _ => rfl
    | 50, _ => rfl
    | 51, _ => rfl
    | 52, _ => rfl
    | 53, _ => rfl
    | 54, _ => rfl
    | 55, _ => rfl
    | 56, _ => rfl
    | 57, _ => rfl
    | 58, _ => rfl
    | 59, _ => rfl
    | 60, _ => rfl
    | 61, _ => rfl
    | 62, _ => rfl
    | 63, _ => rfl
    | 64, _ => rfl
    | 65, _ => rfl
    | 66, _ => rfl
    | 67, _ => rfl
    | 68, _ => rfl
    | 69, _ => rfl
    | 70, _ => rfl
    | 71, _ => rfl
    | 72, _ => rfl
    | 73, _ => rfl
    | 74, _ => rfl
    | 75, _ => rfl
    | 76, _ => rfl
    | 77, _ => rfl
    | 78, _ => rfl
    | 79, _ => rfl
    | 80, _ => rfl
    | 81, _ => rfl
    | 82, _ => rfl
    | 83, _ => rfl
    | 84, _ => rfl
    | 85, _ => rfl
    | k + 86, hk => exact absurd hk (by show ¬ k + 86 < 86; omega)) (fun i j h1 h2 h => injC ⟨i, h1⟩ ⟨j, h2⟩ h) (fun k => [26, 26, 27, 26, 26, 26, 25, 24, 26, 26, 23, 22, 21, 26, 7, 6, 26, 5, 4, 26, 3, 2, 26, 1, 0, 26, 20, 26, 19, 26, 18, 26, 16, 17, 17, 17, 17, 17, 17, 17, 17, 17, 17, 17, 17, 17, 17, 17, 17, 17, 17, 17, 17, 17, 17, 17, 17, 17, 17, 17, 17, 17, 17, 17, 17, 17, 17, 17, 17, 17, 17, 17, 17, 26, 15, 14, 26, 26, 26, 13, 12, 26, 11, 10, 9, 8].getD k 0) (fun k hk => by
    match k, hk with
    | 0, _ => rfl
    | 1, _ => rfl
    | 2, _ => rfl
    | 3, _ => rfl
    | 4, _ => rfl
    | 5, _ => rfl
    | 6, _ => rfl
    | 7, _ => rfl
    | 8, _ => rfl
    | 9, _ => rfl
    | 10, _ => rfl
    | 11, _ => rfl
    | 12, _ => rfl
    | 13, _ => rfl
    | 14, _ => rfl
    | 15, _ => rfl
    | 16, _ => rfl
    | 17, _ => rfl
    | 18, _ => rfl
    | 19, _ => rfl
    | 20, _ => rfl
    | 21, _ => rfl
    | 22, _ => rfl
    | 23, _ => rfl
    | 24, _ => rfl
    | 25, _ => rfl
    | 26, _ => rfl
    | 27, _ => rfl
    | 28, _ => rfl
    | 29, _ => rfl
    | 30, _ => rfl
    | 31, _ => rfl
    | 32, _ => rfl
    | 33, _ => rfl
    | 34, _ => rfl
    | 35, _ => rfl
    | 36, _ => rfl
    | 37, _ => rfl
    | 38, _ => rfl
    | 39, _ => rfl
    | 40, _ => rfl
    | 41, _ => rfl
    | 42, _ => rfl
    | 43, _ => rfl
    | 44, _ => rfl
    | 45, _ => rfl
    | 46, _ => rfl
    | 47, _ => rfl
    | 48, _ => rfl
    | 49, _ => rfl
    | 50, _ => rfl
    | 51, _ => rfl
    | 52, _ => rfl
    | 53, _ => rfl
    | 54, _ => rfl
    | 55, _ => rfl
    | 56, _ => rfl
    | 57, _ => rfl
    | 58, _ => rfl
    | 59, _ => rfl
    | 60, _ => rfl
    | 61, _ => rfl
    | 62, _ => rfl
    | 63, _ => rfl
    | 64, _ => rfl
    | 65, _ => rfl
    | 66, _ => rfl
    | 67, _ => rfl
    | 68, _ => rfl
    | 69, _ => rfl
    | 70, _ => rfl
    | 71, _ => rfl
    | 72, _ => rfl
    | 73, _ => rfl
    | 74, _ => rfl
    | 75, _ => rfl
    | 76, _ => rfl
    | 77, _ => rfl
    | 78, _ => rfl
    | 79, _ => rfl
    | 80, _ => rfl
    | 81, _ => rfl
    | 82, _ => rfl
    | 83, _ => rfl
    | 84, _ => rfl
    | 85, _ => rfl
    | k + 86, hk => exact absurd hk (by show ¬ k + 86 < 86; omega)) ?_
  exact bw_ret hO dX11_init_218 (by rw [hRS]; exact ⟨(qCf [h0, q0, q0_1, q1_1, q2, q0_3, q0_1_3, q2_3, q4, q0_5, q0_1_5, q1_1_5, q6, ql0, q0_l0, q1_l0, ql1, q0_l1, q1_l1, ql2, q0_l2, q1_l2, ql3, q0_l3, q1_l3, q7, q0_8, q9, q0_10, q11, q0_12, q13, q0_14] [q15, q0_16, q1_16, q17, q19, q0_20, q0_1_20, q2_20, q21, q0_22, q1_22, q2_22, q23] q0_14 K.q), (caCf [c1_1, c1_1, c0_1, c1_1, c1_1, c1_1, c0_1_3, c2_3, c1_1, c1_1, c0_1_5, c1_1_5, c6, c1_1, c0_l0, c1_l0, c1_1, c0_l1, c1_l1, c1_1, c0_l2, c1_l2, c1_1, c0_l3, c1_l3, c1_1, c0_8, c1_1, c0_10, c1_1, c0_12, c1_1, cA_14] [c1_1, c0_16, c1_16, c1_1, c1_1, c1_1, c0_1_20, c2_20, c1_1, c0_22, c1_22, c2_22, c23] cB_14 c1_1), rfl, fun i hi => by unfold qCf; rw [if_neg (by omega), if_neg (by omega), if_neg (by omega)], rfl, rfl⟩) (by decide) (by decide)
