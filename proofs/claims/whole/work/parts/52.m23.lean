theorem dJ6_bitCount_0f7a4_0 : decode cJ6_bitCount_0f7a4 0 = .ok (.iload_n 0, 1) := by decide +kernel
theorem dJ6_bitCount_0f7a4_1 : decode cJ6_bitCount_0f7a4 1 = .ok (.iload_n 0, 1) := by decide +kernel
theorem dJ6_bitCount_0f7a4_2 : decode cJ6_bitCount_0f7a4 2 = .ok (.iconst 1, 1) := by decide +kernel
theorem dJ6_bitCount_0f7a4_3 : decode cJ6_bitCount_0f7a4 3 = .ok (.iushr, 1) := by decide +kernel
theorem dJ6_bitCount_0f7a4_4 : decode cJ6_bitCount_0f7a4 4 = .ok (.ldc_w 265, 3) := by decide +kernel
theorem dJ6_bitCount_0f7a4_7 : decode cJ6_bitCount_0f7a4 7 = .ok (.iand, 1) := by decide +kernel
theorem dJ6_bitCount_0f7a4_8 : decode cJ6_bitCount_0f7a4 8 = .ok (.isub, 1) := by decide +kernel
theorem dJ6_bitCount_0f7a4_9 : decode cJ6_bitCount_0f7a4 9 = .ok (.istore_n 0, 1) := by decide +kernel
theorem dJ6_bitCount_0f7a4_10 : decode cJ6_bitCount_0f7a4 10 = .ok (.iload_n 0, 1) := by decide +kernel
theorem dJ6_bitCount_0f7a4_11 : decode cJ6_bitCount_0f7a4 11 = .ok (.ldc_w 266, 3) := by decide +kernel
theorem dJ6_bitCount_0f7a4_14 : decode cJ6_bitCount_0f7a4 14 = .ok (.iand, 1) := by decide +kernel
theorem dJ6_bitCount_0f7a4_15 : decode cJ6_bitCount_0f7a4 15 = .ok (.iload_n 0, 1) := by decide +kernel
theorem dJ6_bitCount_0f7a4_16 : decode cJ6_bitCount_0f7a4 16 = .ok (.iconst 2, 1) := by decide +kernel
theorem dJ6_bitCount_0f7a4_17 : decode cJ6_bitCount_0f7a4 17 = .ok (.iushr, 1) := by decide +kernel
theorem dJ6_bitCount_0f7a4_18 : decode cJ6_bitCount_0f7a4 18 = .ok (.ldc_w 266, 3) := by decide +kernel
theorem dJ6_bitCount_0f7a4_21 : decode cJ6_bitCount_0f7a4 21 = .ok (.iand, 1) := by decide +kernel
theorem dJ6_bitCount_0f7a4_22 : decode cJ6_bitCount_0f7a4 22 = .ok (.iadd, 1) := by decide +kernel
theorem dJ6_bitCount_0f7a4_23 : decode cJ6_bitCount_0f7a4 23 = .ok (.istore_n 0, 1) := by decide +kernel
theorem dJ6_bitCount_0f7a4_24 : decode cJ6_bitCount_0f7a4 24 = .ok (.iload_n 0, 1) := by decide +kernel
theorem dJ6_bitCount_0f7a4_25 : decode cJ6_bitCount_0f7a4 25 = .ok (.iload_n 0, 1) := by decide +kernel
theorem dJ6_bitCount_0f7a4_26 : decode cJ6_bitCount_0f7a4 26 = .ok (.iconst 4, 1) := by decide +kernel
theorem dJ6_bitCount_0f7a4_27 : decode cJ6_bitCount_0f7a4 27 = .ok (.iushr, 1) := by decide +kernel
theorem dJ6_bitCount_0f7a4_28 : decode cJ6_bitCount_0f7a4 28 = .ok (.iadd, 1) := by decide +kernel
theorem dJ6_bitCount_0f7a4_29 : decode cJ6_bitCount_0f7a4 29 = .ok (.ldc_w 267, 3) := by decide +kernel
theorem dJ6_bitCount_0f7a4_32 : decode cJ6_bitCount_0f7a4 32 = .ok (.iand, 1) := by decide +kernel
theorem dJ6_bitCount_0f7a4_33 : decode cJ6_bitCount_0f7a4 33 = .ok (.istore_n 0, 1) := by decide +kernel
theorem dJ6_bitCount_0f7a4_34 : decode cJ6_bitCount_0f7a4 34 = .ok (.iload_n 0, 1) := by decide +kernel
theorem dJ6_bitCount_0f7a4_35 : decode cJ6_bitCount_0f7a4 35 = .ok (.iload_n 0, 1) := by decide +kernel
theorem dJ6_bitCount_0f7a4_36 : decode cJ6_bitCount_0f7a4 36 = .ok (.bipush 8, 2) := by decide +kernel
theorem dJ6_bitCount_0f7a4_38 : decode cJ6_bitCount_0f7a4 38 = .ok (.iushr, 1) := by decide +kernel
theorem dJ6_bitCount_0f7a4_39 : decode cJ6_bitCount_0f7a4 39 = .ok (.iadd, 1) := by decide +kernel
theorem dJ6_bitCount_0f7a4_40 : decode cJ6_bitCount_0f7a4 40 = .ok (.istore_n 0, 1) := by decide +kernel
theorem dJ6_bitCount_0f7a4_41 : decode cJ6_bitCount_0f7a4 41 = .ok (.iload_n 0, 1) := by decide +kernel
theorem dJ6_bitCount_0f7a4_42 : decode cJ6_bitCount_0f7a4 42 = .ok (.iload_n 0, 1) := by decide +kernel
theorem dJ6_bitCount_0f7a4_43 : decode cJ6_bitCount_0f7a4 43 = .ok (.bipush 16, 2) := by decide +kernel
theorem dJ6_bitCount_0f7a4_45 : decode cJ6_bitCount_0f7a4 45 = .ok (.iushr, 1) := by decide +kernel
theorem dJ6_bitCount_0f7a4_46 : decode cJ6_bitCount_0f7a4 46 = .ok (.iadd, 1) := by decide +kernel
theorem dJ6_bitCount_0f7a4_47 : decode cJ6_bitCount_0f7a4 47 = .ok (.istore_n 0, 1) := by decide +kernel
theorem dJ6_bitCount_0f7a4_48 : decode cJ6_bitCount_0f7a4 48 = .ok (.iload_n 0, 1) := by decide +kernel
theorem dJ6_bitCount_0f7a4_49 : decode cJ6_bitCount_0f7a4 49 = .ok (.bipush 63, 2) := by decide +kernel
theorem dJ6_bitCount_0f7a4_51 : decode cJ6_bitCount_0f7a4 51 = .ok (.iand, 1) := by decide +kernel
theorem dJ6_bitCount_0f7a4_52 : decode cJ6_bitCount_0f7a4 52 = .ok (.ireturn, 1) := by decide +kernel
set_option maxRecDepth 100000 in
theorem kJ6_bitCount_0f7a4 : CkS yJ6_bitCount_0f7a4 cJ6_bitCount_0f7a4 1 (some .int) 1 := ⟨⟨(lw_t4 219 rfl rfl), (lw_t1 26 rfl rfl), by decide +kernel, by decide⟩, (lw_t4 218 rfl rfl)⟩
def bitC (v : Int) : Int := (bAnd (((bAnd (((bAnd (v - (bAnd (bUsh v 1) 1431655765)) 858993459) + (bAnd (bUsh (v - (bAnd (bUsh v 1) 1431655765)) 2) 858993459)) + (bUsh ((bAnd (v - (bAnd (bUsh v 1) 1431655765)) 858993459) + (bAnd (bUsh (v - (bAnd (bUsh v 1) 1431655765)) 2) 858993459)) 4)) 252645135) + (bUsh (bAnd (((bAnd (v - (bAnd (bUsh v 1) 1431655765)) 858993459) + (bAnd (bUsh (v - (bAnd (bUsh v 1) 1431655765)) 2) 858993459)) + (bUsh ((bAnd (v - (bAnd (bUsh v 1) 1431655765)) 858993459) + (bAnd (bUsh (v - (bAnd (bUsh v 1) 1431655765)) 2) 858993459)) 4)) 252645135) 8)) + (bUsh ((bAnd (((bAnd (v - (bAnd (bUsh v 1) 1431655765)) 858993459) + (bAnd (bUsh (v - (bAnd (bUsh v 1) 1431655765)) 2) 858993459)) + (bUsh ((bAnd (v - (bAnd (bUsh v 1) 1431655765)) 858993459) + (bAnd (bUsh (v - (bAnd (bUsh v 1) 1431655765)) 2) 858993459)) 4)) 252645135) + (bUsh (bAnd (((bAnd (v - (bAnd (bUsh v 1) 1431655765)) 858993459) + (bAnd (bUsh (v - (bAnd (bUsh v 1) 1431655765)) 2) 858993459)) + (bUsh ((bAnd (v - (bAnd (bUsh v 1) 1431655765)) 858993459) + (bAnd (bUsh (v - (bAnd (bUsh v 1) 1431655765)) 2) 858993459)) 4)) 252645135) 8)) 16)) 63)
set_option maxHeartbeats 4000000 in
set_option maxRecDepth 100000 in
theorem ct_bitCount {P : LPk} (hX : XOk P) (μ : Mm) (v : Int) : CtI P 0 yJ6_bitCount_0f7a4 cJ6_bitCount_0f7a4 1 (some .int) [vI v] μ (bitC v) := by
  refine ct_intro [some (vI v)] RJ6 (by decide) rfl hX rfl (Nat.le_of_ble_eq_true rfl) (fun K hO => ?_)
  refine aw_iload_n hO dJ6_bitCount_0f7a4_0 rfl rfl ?_
  refine aw_iload_n hO dJ6_bitCount_0f7a4_1 rfl rfl ?_
  refine aw_iconst hO dJ6_bitCount_0f7a4_2 rfl ?_
  refine aw_iushr hO dJ6_bitCount_0f7a4_3 rfl ?_
  refine aw_ldcw (a := 1431655765) hO dJ6_bitCount_0f7a4_4 rfl (lw_t4 220 rfl rfl) ?_
  refine aw_iand hO dJ6_bitCount_0f7a4_7 rfl ?_
  refine aw_isub hO dJ6_bitCount_0f7a4_8 rfl ?_
  refine aw_istore_n (ls' := [some (vI (v - (bAnd (bUsh v 1) 1431655765)))]) hO dJ6_bitCount_0f7a4_9 rfl (Nat.le_of_ble_eq_true rfl) rfl rfl ?_
  refine aw_iload_n hO dJ6_bitCount_0f7a4_10 rfl rfl ?_
  refine aw_ldcw (a := 858993459) hO dJ6_bitCount_0f7a4_11 rfl (lw_t4 221 rfl rfl) ?_
  refine aw_iand hO dJ6_bitCount_0f7a4_14 rfl ?_
  refine aw_iload_n hO dJ6_bitCount_0f7a4_15 rfl rfl ?_
  refine aw_iconst hO dJ6_bitCount_0f7a4_16 rfl ?_
  refine aw_iushr hO dJ6_bitCount_0f7a4_17 rfl ?_
  refine aw_ldcw (a := 858993459) hO dJ6_bitCount_0f7a4_18 rfl (lw_t4 221 rfl rfl) ?_
  refine aw_iand hO dJ6_bitCount_0f7a4_21 rfl ?_
  refine aw_iadd hO dJ6_bitCount_0f7a4_22 rfl ?_
  refine aw_istore_n (ls' := [some (vI ((bAnd (v - (bAnd (bUsh v 1) 1431655765)) 858993459) + (bAnd (bUsh (v - (bAnd (bUsh v 1) 1431655765)) 2) 858993459)))]) hO dJ6_bitCount_0f7a4_23 rfl (Nat.le_of_ble_eq_true rfl) rfl rfl ?_
  refine aw_iload_n hO dJ6_bitCount_0f7a4_24 rfl rfl ?_
  refine aw_iload_n hO dJ6_bitCount_0f7a4_25 rfl rfl ?_
  refine aw_iconst hO dJ6_bitCount_0f7a4_26 rfl ?_
  refine aw_iushr hO dJ6_bitCount_0f7a4_27 rfl ?_
  refine aw_iadd hO dJ6_bitCount_0f7a4_28 rfl ?_
  refine aw_ldcw (a := 252645135) hO dJ6_bitCount_0f7a4_29 rfl (lw_t4 222 rfl rfl) ?_
  refine aw_iand hO dJ6_bitCount_0f7a4_32 rfl ?_
  refine aw_istore_n (ls' := [some (vI (bAnd (((bAnd (v - (bAnd (bUsh v 1) 1431655765)) 858993459) + (bAnd (bUsh (v - (bAnd (bUsh v 1) 1431655765)) 2) 858993459)) + (bUsh ((bAnd (v - (bAnd (bUsh v 1) 1431655765)) 858993459) + (bAnd (bUsh (v - (bAnd (bUsh v 1) 1431655765)) 2) 858993459)) 4)) 252645135))]) hO dJ6_bitCount_0f7a4_33 rfl (Nat.le_of_ble_eq_true rfl) rfl rfl ?_
  refine aw_iload_n hO dJ6_bitCount_0f7a4_34 rfl rfl ?_
  refine aw_iload_n hO dJ6_bitCount_0f7a4_35 rfl rfl ?_
  refine aw_bipush hO dJ6_bitCount_0f7a4_36 rfl (by decide) (by decide) ?_
  refine aw_iushr hO dJ6_bitCount_0f7a4_38 rfl ?_
  refine aw_iadd hO dJ6_bitCount_0f7a4_39 rfl ?_
  refine aw_istore_n (ls' := [some (vI ((bAnd (((bAnd (v - (bAnd (bUsh v 1) 1431655765)) 858993459) + (bAnd (bUsh (v - (bAnd (bUsh v 1) 1431655765)) 2) 858993459)) + (bUsh ((bAnd (v - (bAnd (bUsh v 1) 1431655765)) 858993459) + (bAnd (bUsh (v - (bAnd (bUsh v 1) 1431655765)) 2) 858993459)) 4)) 252645135) + (bUsh (bAnd (((bAnd (v - (bAnd (bUsh v 1) 1431655765)) 858993459) + (bAnd (bUsh (v - (bAnd (bUsh v 1) 1431655765)) 2) 858993459)) + (bUsh ((bAnd (v - (bAnd (bUsh v 1) 1431655765)) 858993459) + (bAnd (bUsh (v - (bAnd (bUsh v 1) 1431655765)) 2) 858993459)) 4)) 252645135) 8)))]) hO dJ6_bitCount_0f7a4_40 rfl (Nat.le_of_ble_eq_true rfl) rfl rfl ?_
  refine aw_iload_n hO dJ6_bitCount_0f7a4_41 rfl rfl ?_
  refine aw_iload_n hO dJ6_bitCount_0f7a4_42 rfl rfl ?_
  refine aw_bipush hO dJ6_bitCount_0f7a4_43 rfl (by decide) (by decide) ?_
  refine aw_iushr hO dJ6_bitCount_0f7a4_45 rfl ?_
  refine aw_iadd hO dJ6_bitCount_0f7a4_46 rfl ?_
  refine aw_istore_n (ls' := [some (vI (((bAnd (((bAnd (v - (bAnd (bUsh v 1) 1431655765)) 858993459) + (bAnd (bUsh (v - (bAnd (bUsh v 1) 1431655765)) 2) 858993459)) + (bUsh ((bAnd (v - (bAnd (bUsh v 1) 1431655765)) 858993459) + (bAnd (bUsh (v - (bAnd (bUsh v 1) 1431655765)) 2) 858993459)) 4)) 252645135) + (bUsh (bAnd (((bAnd (v - (bAnd (bUsh v 1) 1431655765)) 858993459) + (bAnd (bUsh (v - (bAnd (bUsh v 1) 1431655765)) 2) 858993459)) + (bUsh ((bAnd (v - (bAnd (bUsh v 1) 1431655765)) 858993459) + (bAnd (bUsh (v - (bAnd (bUsh v 1) 1431655765)) 2) 858993459)) 4)) 252645135) 8)) + (bUsh ((bAnd (((bAnd (v - (bAnd (bUsh v 1) 1431655765)) 858993459) + (bAnd (bUsh (v - (bAnd (bUsh v 1) 1431655765)) 2) 858993459)) + (bUsh ((bAnd (v - (bAnd (bUsh v 1) 1431655765)) 858993459) + (bAnd (bUsh (v - (bAnd (bUsh v 1) 1431655765)) 2) 858993459)) 4)) 252645135) + (bUsh (bAnd (((bAnd (v - (bAnd (bUsh v 1) 1431655765)) 858993459) + (bAnd (bUsh (v - (bAnd (bUsh v 1) 1431655765)) 2) 858993459)) + (bUsh ((bAnd (v - (bAnd (bUsh v 1) 1431655765)) 858993459) + (bAnd (bUsh (v - (bAnd (bUsh v 1) 1431655765)) 2) 858993459)) 4)) 252645135) 8)) 16)))]) hO dJ6_bitCount_0f7a4_47 rfl (Nat.le_of_ble_eq_true rfl) rfl rfl ?_
  refine aw_iload_n hO dJ6_bitCount_0f7a4_48 rfl rfl ?_
  refine aw_bipush hO dJ6_bitCount_0f7a4_49 rfl (by decide) (by decide) ?_
  refine aw_iand hO dJ6_bitCount_0f7a4_51 rfl ?_
  refine aw_iret hO dJ6_bitCount_0f7a4_52 ?_
  exact rI (rfl)
theorem dX12_given_0 : decode cX12_given 0 = .ok (.aload_n 0, 1) := by decide +kernel
theorem dX12_given_1 : decode cX12_given 1 = .ok (.getfield 242, 3) := by decide +kernel
theorem dX12_given_4 : decode cX12_given 4 = .ok (.ifCond .eq 48, 3) := by decide +kernel
theorem dX12_given_7 : decode cX12_given 7 = .ok (.iload_n 1, 1) := by decide +kernel
theorem dX12_given_8 : decode cX12_given 8 = .ok (.iconst 1, 1) := by decide +kernel
theorem dX12_given_9 : decode cX12_given 9 = .ok (.aload_n 0, 1) := by decide +kernel
theorem dX12_given_10 : decode cX12_given 10 = .ok (.invokevirtual 370, 3) := by decide +kernel
theorem dX12_given_13 : decode cX12_given 13 = .ok (.invokestatic 205, 3) := by decide +kernel
theorem dX12_given_16 : decode cX12_given 16 = .ok (.ifCond .eq 36, 3) := by decide +kernel
theorem dX12_given_19 : decode cX12_given 19 = .ok (.iload_n 1, 1) := by decide +kernel
theorem dX12_given_20 : decode cX12_given 20 = .ok (.invokestatic 373, 3) := by decide +kernel
theorem dX12_given_23 : decode cX12_given 23 = .ok (.iconst 2, 1) := by decide +kernel
theorem dX12_given_24 : decode cX12_given 24 = .ok (.if_icmp .lt 28, 3) := by decide +kernel
theorem dX12_given_27 : decode cX12_given 27 = .ok (.aload_n 0, 1) := by decide +kernel
theorem dX12_given_28 : decode cX12_given 28 = .ok (.iload_n 2, 1) := by decide +kernel
theorem dX12_given_29 : decode cX12_given 29 = .ok (.invokevirtual 313, 3) := by decide +kernel
theorem dX12_given_32 : decode cX12_given 32 = .ok (.ifCond .eq 20, 3) := by decide +kernel
theorem dX12_given_35 : decode cX12_given 35 = .ok (.iload_n 1, 1) := by decide +kernel
theorem dX12_given_36 : decode cX12_given 36 = .ok (.iload_n 2, 1) := by decide +kernel
theorem dX12_given_37 : decode cX12_given 37 = .ok (.invokestatic 216, 3) := by decide +kernel
theorem dX12_given_40 : decode cX12_given 40 = .ok (.ifCond .eq 12, 3) := by decide +kernel
theorem dX12_given_43 : decode cX12_given 43 = .ok (.aload_n 0, 1) := by decide +kernel
theorem dX12_given_44 : decode cX12_given 44 = .ok (.getfield 248, 3) := by decide +kernel
theorem dX12_given_47 : decode cX12_given 47 = .ok (.bipush 10, 2) := by decide +kernel
theorem dX12_given_49 : decode cX12_given 49 = .ok (.if_icmp .ne 5, 3) := by decide +kernel
theorem dX12_given_52 : decode cX12_given 52 = .ok (.iconst (-1), 1) := by decide +kernel
theorem dX12_given_53 : decode cX12_given 53 = .ok (.ireturn, 1) := by decide +kernel
theorem dX12_given_54 : decode cX12_given 54 = .ok (.aload_n 0, 1) := by decide +kernel
theorem dX12_given_55 : decode cX12_given 55 = .ok (.getfield 77, 3) := by decide +kernel
theorem dX12_given_58 : decode cX12_given 58 = .ok (.aload_n 0, 1) := by decide +kernel
theorem dX12_given_59 : decode cX12_given 59 = .ok (.getfield 248, 3) := by decide +kernel
theorem dX12_given_62 : decode cX12_given 62 = .ok (.iload_n 1, 1) := by decide +kernel
theorem dX12_given_63 : decode cX12_given 63 = .ok (.iastore, 1) := by decide +kernel
theorem dX12_given_64 : decode cX12_given 64 = .ok (.aload_n 0, 1) := by decide +kernel
theorem dX12_given_65 : decode cX12_given 65 = .ok (.getfield 80, 3) := by decide +kernel
theorem dX12_given_68 : decode cX12_given 68 = .ok (.aload_n 0, 1) := by decide +kernel
theorem dX12_given_69 : decode cX12_given 69 = .ok (.getfield 248, 3) := by decide +kernel
theorem dX12_given_72 : decode cX12_given 72 = .ok (.iload_n 2, 1) := by decide +kernel
theorem dX12_given_73 : decode cX12_given 73 = .ok (.iastore, 1) := by decide +kernel
theorem dX12_given_74 : decode cX12_given 74 = .ok (.aload_n 0, 1) := by decide +kernel
theorem dX12_given_75 : decode cX12_given 75 = .ok (.getfield 83, 3) := by decide +kernel
theorem dX12_given_78 : decode cX12_given 78 = .ok (.aload_n 0, 1) := by decide +kernel
theorem dX12_given_79 : decode cX12_given 79 = .ok (.getfield 248, 3) := by decide +kernel
theorem dX12_given_82 : decode cX12_given 82 = .ok (.iload_n 3, 1) := by decide +kernel
theorem dX12_given_83 : decode cX12_given 83 = .ok (.bastore, 1) := by decide +kernel
theorem dX12_given_84 : decode cX12_given 84 = .ok (.aload_n 0, 1) := by decide +kernel
theorem dX12_given_85 : decode cX12_given 85 = .ok (.dup, 1) := by decide +kernel
theorem dX12_given_86 : decode cX12_given 86 = .ok (.getfield 248, 3) := by decide +kernel
theorem dX12_given_89 : decode cX12_given 89 = .ok (.iconst 1, 1) := by decide +kernel
theorem dX12_given_90 : decode cX12_given 90 = .ok (.iadd, 1) := by decide +kernel
theorem dX12_given_91 : decode cX12_given 91 = .ok (.putfield 248, 3) := by decide +kernel
theorem dX12_given_94 : decode cX12_given 94 = .ok (.aload_n 0, 1) := by decide +kernel
theorem dX12_given_95 : decode cX12_given 95 = .ok (.getfield 248, 3) := by decide +kernel
theorem dX12_given_98 : decode cX12_given 98 = .ok (.ireturn, 1) := by decide +kernel

theorem bitC_all : ∀ a : Fin 64, 0 ≤ bitC ((a.val : Nat) : Int) ∧ bitC ((a.val : Nat) : Int) ≤ 6 := by decide +kernel
theorem bitC_rng {a : Int} (h1 : 0 ≤ a) (h2 : a ≤ 63) : 0 ≤ bitC a ∧ bitC a ≤ 6 := by
  have := bitC_all ⟨a.toNat, by omega⟩
  simp only [Int.toNat_of_nonneg h1] at this
  exact this
set_option maxHeartbeats 4000000 in
set_option maxRecDepth 100000 in
theorem ctM_given (μ : Mm) (h : MB μ) (hN : NoteOK μ) {s v z : Int} (hs : InR s) (hv : InR v) (hz : z = 0 ∨ z = 1) : CtE PM 2 yX12_given cX12_given 4 (some .int) [vR 0, vI s, vI v, vI z] μ (fun r m => r = (if μ.1 0 25 ≠ 0 ∧ (1 ≤ s ∧ s ≤ bShl 1 (μ.1 0 25) - 1) ∧ 2 ≤ bitC s ∧ (0 ≤ v ∧ v < μ.1 0 25) ∧ hasB s v.toNat = true ∧ μ.1 0 41 ≠ 10 then μ.1 0 41 + 1 else -1) ∧ m = (if μ.1 0 25 ≠ 0 ∧ (1 ≤ s ∧ s ≤ bShl 1 (μ.1 0 25) - 1) ∧ 2 ≤ bitC s ∧ (0 ≤ v ∧ v < μ.1 0 25) ∧ hasB s v.toNat = true ∧ μ.1 0 41 ≠ 10 then mst (mst (mst (mst μ 21 (μ.1 0 41).toNat s) 22 (μ.1 0 41).toNat v) 23 (μ.1 0 41).toNat z) 0 41 (μ.1 0 41 + 1) else μ)) := by
  refine ct_intro [some (vR 0), some (vI s), some (vI v), some (vI z)] RX12 (by decide) rfl XM rfl (Nat.le_of_ble_eq_true rfl) (fun K hO => ?_)
  have hnp := h.np
  have hno := hN.1
  have heb : 0 ≤ bShl 1 (μ.1 0 25) - 1 ∧ bShl 1 (μ.1 0 25) - 1 ≤ 63 := evb_rng hnp.1 hnp.2
  refine aw_aload_n hO dX12_given_0 rfl rfl ?_
  refine gM_persons hO dX12_given_1 rfl ?_
  refine aw_if_eq (tgt := 52) hO dX12_given_4 rfl rfl ⟨by omega, by omega⟩ (fun c4 => ?_) (fun c4 => ?_)
  · refine aw_iconst hO dX12_given_52 rfl ?_
    refine aw_iret hO dX12_given_53 ?_
    exact ⟨_, rfl, by rw [if_neg (fun q => q.1 c4)], by rw [if_neg (fun q => q.1 c4)]⟩
  · refine aw_iload_n hO dX12_given_7 rfl rfl ?_
    refine aw_iconst hO dX12_given_8 rfl ?_
    refine aw_aload_n hO dX12_given_9 rfl rfl ?_
    refine aw_callVI (as := []) (st := [vI 1, vI s]) hO dX12_given_10 rfl (lw_t7 216 rfl rfl) kX12_everybody (T := TX12) rfl (by decide) rfl (ctM_everybody μ) (by decide) rfl rfl rfl (Nat.le_of_ble_eq_true rfl) ?_
    refine aw_callSI (as := [vI s, vI 1, vI (bShl 1 (μ.1 0 25) - 1)]) (st := []) hO dX12_given_13 rfl (lw_t6 172 rfl rfl) kX12_in (ctM_in μ ⟨by omega, by omega⟩ (inRlit _) ⟨by omega, by omega⟩) (by decide) rfl rfl rfl (Nat.le_of_ble_eq_true rfl) ?_
    refine aw_ifz_eq (tgt := 52) hO dX12_given_16 rfl rfl (fun c16 => ?_) (fun c16 => ?_)
    · refine aw_iconst hO dX12_given_52 rfl ?_
      refine aw_iret hO dX12_given_53 ?_
      exact ⟨_, rfl, by rw [if_neg (fun q => c16 q.2.1)], by rw [if_neg (fun q => c16 q.2.1)]⟩
    · refine aw_iload_n hO dX12_given_19 rfl rfl ?_
      refine aw_callSI (as := [vI s]) (st := []) hO dX12_given_20 rfl (lw_t7 224 rfl rfl) kJ6_bitCount_0f7a4 (ct_bitCount XM μ s) (by decide) rfl rfl rfl (Nat.le_of_ble_eq_true rfl) ?_
      have hbc := bitC_rng (by omega : 0 ≤ s) (by omega : s ≤ 63)
      refine aw_iconst hO dX12_given_23 rfl ?_
      refine aw_icmp_lt (tgt := 52) hO dX12_given_24 rfl rfl ⟨by omega, by omega⟩ (inRlit _) (fun c24 => ?_) (fun c24 => ?_)
      · refine aw_iconst hO dX12_given_52 rfl ?_
        refine aw_iret hO dX12_given_53 ?_
        exact ⟨_, rfl, by rw [if_neg (fun q => absurd q.2.2.1 (by omega))], by rw [if_neg (fun q => absurd q.2.2.1 (by omega))]⟩
      · refine aw_aload_n hO dX12_given_27 rfl rfl ?_
        refine aw_iload_n hO dX12_given_28 rfl rfl ?_
        refine aw_callVI (as := [vI v]) (st := []) hO dX12_given_29 rfl (lw_t7 21 rfl rfl) kX12_isPerson (T := TX12) rfl (by decide) rfl (ctM_isPerson μ h (v := v) hv) (by decide) rfl rfl rfl (Nat.le_of_ble_eq_true rfl) ?_
        refine aw_ifz_eq (tgt := 52) hO dX12_given_32 rfl rfl (fun c32 => ?_) (fun c32 => ?_)
        · refine aw_iconst hO dX12_given_52 rfl ?_
          refine aw_iret hO dX12_given_53 ?_
          exact ⟨_, rfl, by rw [if_neg (fun q => c32 q.2.2.2.1)], by rw [if_neg (fun q => c32 q.2.2.2.1)]⟩
        · refine aw_iload_n hO dX12_given_35 rfl rfl ?_
          refine aw_iload_n hO dX12_given_36 rfl rfl ?_
          refine aw_stq (st' := [vI ((v.toNat : Nat) : Int), vI s]) (by rw [Int.toNat_of_nonneg (by omega)]) ?_
          refine aw_callSI (as := [vI s, vI ((v.toNat : Nat) : Int)]) (st := []) hO dX12_given_37 rfl (lw_t6 155 rfl rfl) kX12_has (ctM_has μ s v.toNat) (by decide) rfl rfl rfl (Nat.le_of_ble_eq_true rfl) ?_
          refine aw_ifz_eq (tgt := 52) hO dX12_given_40 rfl rfl (fun c40 => ?_) (fun c40 => ?_)
          · refine aw_iconst hO dX12_given_52 rfl ?_
            refine aw_iret hO dX12_given_53 ?_
            exact ⟨_, rfl, by rw [if_neg (fun q => c40 q.2.2.2.2.1)], by rw [if_neg (fun q => c40 q.2.2.2.2.1)]⟩
          · refine aw_aload_n hO dX12_given_43 rfl rfl ?_
            refine gM_noted hO dX12_given_44 rfl ?_
            refine aw_bipush hO dX12_given_47 rfl (by decide) (by decide) ?_
            refine aw_icmp_ne (tgt := 54) hO dX12_given_49 rfl rfl ⟨by omega, by omega⟩ (inRlit _) (fun c49 => ?_) (fun c49 => ?_)
            · refine aw_aload_n hO dX12_given_54 rfl rfl ?_
              refine gM_noteSet hO dX12_given_55 rfl ?_
              refine aw_aload_n hO dX12_given_58 rfl rfl ?_
              refine gM_noted hO dX12_given_59 rfl ?_
              refine aw_iload_n hO dX12_given_62 rfl rfl ?_
              refine aw_iastn (N := 10) (i := ((μ.1 0 41)).toNat) hO dX12_given_63 rfl (by decide) rfl (by decide) (Int.toNat_of_nonneg (by omega)).symm (by omega) ?_
              refine aw_mm (fun μ1 e_μ1 => ?_)
              refine aw_aload_n hO dX12_given_64 rfl rfl ?_
              refine gM_noteOne hO dX12_given_65 rfl ?_
              refine aw_aload_n hO dX12_given_68 rfl rfl ?_
              refine gM_noted hO dX12_given_69 rfl ?_
              refine aw_cg (show μ1.1 0 41 = μ.1 0 41 by rw [e_μ1, mst_nk (by decide)]) ?_
              refine aw_iload_n hO dX12_given_72 rfl rfl ?_
              refine aw_iastn (N := 10) (i := ((μ.1 0 41)).toNat) hO dX12_given_73 rfl (by decide) rfl (by decide) (Int.toNat_of_nonneg (by omega)).symm (by omega) ?_
              refine aw_mm (fun μ2 e_μ2 => ?_)
              refine aw_aload_n hO dX12_given_74 rfl rfl ?_
              refine gM_noteIs hO dX12_given_75 rfl ?_
              refine aw_aload_n hO dX12_given_78 rfl rfl ?_
              refine gM_noted hO dX12_given_79 rfl ?_
              refine aw_cg (show μ2.1 0 41 = μ.1 0 41 by rw [e_μ2, mst_nk (by decide), e_μ1, mst_nk (by decide)]) ?_
              refine aw_iload_n hO dX12_given_82 rfl rfl ?_
              refine aw_zast (N := 10) (i := (μ.1 0 41).toNat) hO dX12_given_83 rfl (by decide) rfl (by decide) (Int.toNat_of_nonneg (by omega)).symm (by omega) hz ?_
              refine aw_mm (fun μ3 e_μ3 => ?_)
              refine aw_aload_n hO dX12_given_84 rfl rfl ?_
              refine aw_dup hO dX12_given_85 rfl rfl ?_
              refine gM_noted hO dX12_given_86 rfl ?_
              refine aw_cg (show μ3.1 0 41 = μ.1 0 41 by rw [e_μ3, mst_nk (by decide), e_μ2, mst_nk (by decide), e_μ1, mst_nk (by decide)]) ?_
              refine aw_iconst hO dX12_given_89 rfl ?_
              refine aw_iadd hO dX12_given_90 rfl ?_
              refine pM_noted hO dX12_given_91 rfl ?_
              refine aw_mm (fun μ4 e_μ4 => ?_)
              refine aw_aload_n hO dX12_given_94 rfl rfl ?_
              refine gM_noted hO dX12_given_95 rfl ?_
              refine aw_cg (show μ4.1 0 41 = μ.1 0 41 + 1 by rw [e_μ4, mst_eq]) ?_
              refine aw_iret hO dX12_given_98 ?_
              exact ⟨_, rfl, by rw [if_pos ⟨c4, c16, c24, c32, c40, c49⟩], by rw [if_pos ⟨c4, c16, c24, c32, c40, c49⟩, e_μ4, e_μ3, e_μ2, e_μ1]⟩
            · refine aw_iconst hO dX12_given_52 rfl ?_
              refine aw_iret hO dX12_given_53 ?_
              exact ⟨_, rfl, by rw [if_neg (fun q => q.2.2.2.2.2 c49)], by rw [if_neg (fun q => q.2.2.2.2.2 c49)]⟩
theorem dX12_byteOf_0 : decode cX12_byteOf 0 = .ok (.iload 5, 2) := by decide +kernel
theorem dX12_byteOf_2 : decode cX12_byteOf 2 = .ok (.iconst 4, 1) := by decide +kernel
theorem dX12_byteOf_3 : decode cX12_byteOf 3 = .ok (.if_icmp .ge 7, 3) := by decide +kernel
theorem dX12_byteOf_6 : decode cX12_byteOf 6 = .ok (.iload_n 0, 1) := by decide +kernel
theorem dX12_byteOf_7 : decode cX12_byteOf 7 = .ok (.goto 38, 3) := by decide +kernel
theorem dX12_byteOf_10 : decode cX12_byteOf 10 = .ok (.iload 5, 2) := by decide +kernel
theorem dX12_byteOf_12 : decode cX12_byteOf 12 = .ok (.bipush 8, 2) := by decide +kernel
theorem dX12_byteOf_14 : decode cX12_byteOf 14 = .ok (.if_icmp .ge 7, 3) := by decide +kernel
theorem dX12_byteOf_17 : decode cX12_byteOf 17 = .ok (.iload_n 1, 1) := by decide +kernel
theorem dX12_byteOf_18 : decode cX12_byteOf 18 = .ok (.goto 27, 3) := by decide +kernel
theorem dX12_byteOf_21 : decode cX12_byteOf 21 = .ok (.iload 5, 2) := by decide +kernel
theorem dX12_byteOf_23 : decode cX12_byteOf 23 = .ok (.bipush 12, 2) := by decide +kernel
theorem dX12_byteOf_25 : decode cX12_byteOf 25 = .ok (.if_icmp .ge 7, 3) := by decide +kernel
theorem dX12_byteOf_28 : decode cX12_byteOf 28 = .ok (.iload_n 2, 1) := by decide +kernel
theorem dX12_byteOf_29 : decode cX12_byteOf 29 = .ok (.goto 16, 3) := by decide +kernel
theorem dX12_byteOf_32 : decode cX12_byteOf 32 = .ok (.iload 5, 2) := by decide +kernel
theorem dX12_byteOf_34 : decode cX12_byteOf 34 = .ok (.bipush 16, 2) := by decide +kernel
theorem dX12_byteOf_36 : decode cX12_byteOf 36 = .ok (.if_icmp .ge 7, 3) := by decide +kernel
theorem dX12_byteOf_39 : decode cX12_byteOf 39 = .ok (.iload_n 3, 1) := by decide +kernel
theorem dX12_byteOf_40 : decode cX12_byteOf 40 = .ok (.goto 5, 3) := by decide +kernel
theorem dX12_byteOf_43 : decode cX12_byteOf 43 = .ok (.iload 4, 2) := by decide +kernel
theorem dX12_byteOf_45 : decode cX12_byteOf 45 = .ok (.istore 6, 2) := by decide +kernel
theorem dX12_byteOf_47 : decode cX12_byteOf 47 = .ok (.iload 6, 2) := by decide +kernel
theorem dX12_byteOf_49 : decode cX12_byteOf 49 = .ok (.bipush 24, 2) := by decide +kernel
theorem dX12_byteOf_51 : decode cX12_byteOf 51 = .ok (.bipush 8, 2) := by decide +kernel
theorem dX12_byteOf_53 : decode cX12_byteOf 53 = .ok (.iload 5, 2) := by decide +kernel
theorem dX12_byteOf_55 : decode cX12_byteOf 55 = .ok (.iconst 4, 1) := by decide +kernel
theorem dX12_byteOf_56 : decode cX12_byteOf 56 = .ok (.irem, 1) := by decide +kernel
theorem dX12_byteOf_57 : decode cX12_byteOf 57 = .ok (.imul, 1) := by decide +kernel
theorem dX12_byteOf_58 : decode cX12_byteOf 58 = .ok (.isub, 1) := by decide +kernel
theorem dX12_byteOf_59 : decode cX12_byteOf 59 = .ok (.ishr, 1) := by decide +kernel
theorem dX12_byteOf_60 : decode cX12_byteOf 60 = .ok (.sipush 255, 3) := by decide +kernel
theorem dX12_byteOf_63 : decode cX12_byteOf 63 = .ok (.iand, 1) := by decide +kernel
theorem dX12_byteOf_64 : decode cX12_byteOf 64 = .ok (.ireturn, 1) := by decide +kernel

/-! ## the tape -/
def wrd (a b c d e : Int) (k : Nat) : Int := if k < 4 then a else if k < 8 then b else if k < 12 then c else if k < 16 then d else e
def byt (a b c d e : Int) (k : Nat) : Int := bAnd (bShr (wrd a b c d e k) (24 - 8 * ((k : Int) % 4))) 255
set_option maxHeartbeats 4000000 in
set_option maxRecDepth 100000 in
theorem ctM_byteOf (μ : Mm) (a b c d e : Int) {k : Nat} (hk : k < 20) : CtI PM 0 yX12_byteOf cX12_byteOf 7 (some .int) [vI a, vI b, vI c, vI d, vI e, vI ((k : Nat) : Int)] μ (byt a b c d e k) := by
  refine ct_intro [some (vI a), some (vI b), some (vI c), some (vI d), some (vI e), some (vI ((k : Nat) : Int)), none] RX12 (by decide) rfl XM rfl (Nat.le_of_ble_eq_true rfl) (fun K hO => ?_)
  have j : AW K 45 [some (vI a), some (vI b), some (vI c), some (vI d), some (vI e), some (vI ((k : Nat) : Int)), none] [vI (wrd a b c d e k)] μ := by
    refine aw_istore (ls' := [some (vI a), some (vI b), some (vI c), some (vI d), some (vI e), some (vI ((k : Nat) : Int)), some (vI (wrd a b c d e k))]) hO dX12_byteOf_45 rfl (Nat.le_of_ble_eq_true rfl) rfl rfl ?_
    refine aw_iload hO dX12_byteOf_47 rfl rfl ?_
    refine aw_bipush hO dX12_byteOf_49 rfl (by decide) (by decide) ?_
    refine aw_bipush hO dX12_byteOf_51 rfl (by decide) (by decide) ?_
    refine aw_iload hO dX12_byteOf_53 rfl rfl ?_
    refine aw_iconst hO dX12_byteOf_55 rfl ?_
    refine aw_irem hO dX12_byteOf_56 rfl (by omega) (by omega) (by omega) (by omega) ?_
    refine aw_imul hO dX12_byteOf_57 rfl ?_
    refine aw_isub hO dX12_byteOf_58 rfl ?_
    refine aw_ishr hO dX12_byteOf_59 rfl ?_
    refine aw_sipush hO dX12_byteOf_60 rfl (by decide) (by decide) ?_
    refine aw_iand hO dX12_byteOf_63 rfl ?_
    refine aw_iret hO dX12_byteOf_64 ?_
    exact rI rfl
  refine aw_iload hO dX12_byteOf_0 rfl rfl ?_
  refine aw_iconst hO dX12_byteOf_2 rfl ?_
  refine aw_icmp_ge (tgt := 10) hO dX12_byteOf_3 rfl rfl (inRn (by omega)) (inRlit _) (fun c3 => ?_) (fun c3 => ?_)
  · refine aw_iload hO dX12_byteOf_10 rfl rfl ?_
    refine aw_bipush hO dX12_byteOf_12 rfl (by decide) (by decide) ?_
    refine aw_icmp_ge (tgt := 21) hO dX12_byteOf_14 rfl rfl (inRn (by omega)) (inRlit _) (fun c14 => ?_) (fun c14 => ?_)
    · refine aw_iload hO dX12_byteOf_21 rfl rfl ?_
      refine aw_bipush hO dX12_byteOf_23 rfl (by decide) (by decide) ?_
      refine aw_icmp_ge (tgt := 32) hO dX12_byteOf_25 rfl rfl (inRn (by omega)) (inRlit _) (fun c25 => ?_) (fun c25 => ?_)
      · refine aw_iload hO dX12_byteOf_32 rfl rfl ?_
        refine aw_bipush hO dX12_byteOf_34 rfl (by decide) (by decide) ?_
        refine aw_icmp_ge (tgt := 43) hO dX12_byteOf_36 rfl rfl (inRn (by omega)) (inRlit _) (fun c36 => ?_) (fun c36 => ?_)
        · refine aw_iload hO dX12_byteOf_43 rfl rfl ?_
          refine aw_cg (show e = wrd a b c d e k by unfold wrd; rw [if_neg (by omega), if_neg (by omega), if_neg (by omega), if_neg (by omega)]) ?_
          exact j
        · refine aw_iload_n hO dX12_byteOf_39 rfl rfl ?_
          refine aw_goto (tgt := 45) hO dX12_byteOf_40 rfl ?_
          refine aw_cg (show d = wrd a b c d e k by unfold wrd; rw [if_neg (by omega), if_neg (by omega), if_neg (by omega), if_pos (by omega)]) ?_
          exact j
      · refine aw_iload_n hO dX12_byteOf_28 rfl rfl ?_
        refine aw_goto (tgt := 45) hO dX12_byteOf_29 rfl ?_
        refine aw_cg (show c = wrd a b c d e k by unfold wrd; rw [if_neg (by omega), if_neg (by omega), if_pos (by omega)]) ?_
        exact j
    · refine aw_iload_n hO dX12_byteOf_17 rfl rfl ?_
      refine aw_goto (tgt := 45) hO dX12_byteOf_18 rfl ?_
      refine aw_cg (show b = wrd a b c d e k by unfold wrd; rw [if_neg (by omega), if_pos (by omega)]) ?_
      exact j
  · refine aw_iload_n hO dX12_byteOf_6 rfl rfl ?_
    refine aw_goto (tgt := 45) hO dX12_byteOf_7 rfl ?_
    refine aw_cg (show a = wrd a b c d e k by unfold wrd; rw [if_pos (by omega)]) ?_
    exact j
theorem dX12_feed_0 : decode cX12_feed 0 = .ok (.iconst 0, 1) := by decide +kernel
theorem dX12_feed_1 : decode cX12_feed 1 = .ok (.istore 6, 2) := by decide +kernel
theorem dX12_feed_3 : decode cX12_feed 3 = .ok (.iconst 0, 1) := by decide +kernel
theorem dX12_feed_4 : decode cX12_feed 4 = .ok (.istore 7, 2) := by decide +kernel
theorem dX12_feed_6 : decode cX12_feed 6 = .ok (.iload 7, 2) := by decide +kernel
theorem dX12_feed_8 : decode cX12_feed 8 = .ok (.bipush 20, 2) := by decide +kernel
theorem dX12_feed_10 : decode cX12_feed 10 = .ok (.if_icmp .ge 34, 3) := by decide +kernel
theorem dX12_feed_13 : decode cX12_feed 13 = .ok (.iload 6, 2) := by decide +kernel
theorem dX12_feed_15 : decode cX12_feed 15 = .ok (.iload_n 1, 1) := by decide +kernel
theorem dX12_feed_16 : decode cX12_feed 16 = .ok (.iload_n 2, 1) := by decide +kernel
theorem dX12_feed_17 : decode cX12_feed 17 = .ok (.iload_n 3, 1) := by decide +kernel
theorem dX12_feed_18 : decode cX12_feed 18 = .ok (.iload 4, 2) := by decide +kernel
theorem dX12_feed_20 : decode cX12_feed 20 = .ok (.iload 5, 2) := by decide +kernel
theorem dX12_feed_22 : decode cX12_feed 22 = .ok (.iload 7, 2) := by decide +kernel
theorem dX12_feed_24 : decode cX12_feed 24 = .ok (.invokestatic 93, 3) := by decide +kernel
theorem dX12_feed_27 : decode cX12_feed 27 = .ok (.ifCond .eq 7, 3) := by decide +kernel
theorem dX12_feed_30 : decode cX12_feed 30 = .ok (.iconst 1, 1) := by decide +kernel
theorem dX12_feed_31 : decode cX12_feed 31 = .ok (.goto 4, 3) := by decide +kernel
theorem dX12_feed_34 : decode cX12_feed 34 = .ok (.iconst 0, 1) := by decide +kernel
theorem dX12_feed_35 : decode cX12_feed 35 = .ok (.iadd, 1) := by decide +kernel
theorem dX12_feed_36 : decode cX12_feed 36 = .ok (.istore 6, 2) := by decide +kernel
theorem dX12_feed_38 : decode cX12_feed 38 = .ok (.iinc 7 1, 3) := by decide +kernel
theorem dX12_feed_41 : decode cX12_feed 41 = .ok (.goto (-35), 3) := by decide +kernel
theorem dX12_feed_44 : decode cX12_feed 44 = .ok (.aload_n 0, 1) := by decide +kernel
theorem dX12_feed_45 : decode cX12_feed 45 = .ok (.getfield 97, 3) := by decide +kernel
theorem dX12_feed_48 : decode cX12_feed 48 = .ok (.iload 6, 2) := by decide +kernel
theorem dX12_feed_50 : decode cX12_feed 50 = .ok (.iadd, 1) := by decide +kernel
theorem dX12_feed_51 : decode cX12_feed 51 = .ok (.sipush 240, 3) := by decide +kernel
theorem dX12_feed_54 : decode cX12_feed 54 = .ok (.if_icmp .le 5, 3) := by decide +kernel
theorem dX12_feed_57 : decode cX12_feed 57 = .ok (.iconst (-1), 1) := by decide +kernel
theorem dX12_feed_58 : decode cX12_feed 58 = .ok (.ireturn, 1) := by decide +kernel
theorem dX12_feed_59 : decode cX12_feed 59 = .ok (.iconst 0, 1) := by decide +kernel
theorem dX12_feed_60 : decode cX12_feed 60 = .ok (.istore 7, 2) := by decide +kernel
theorem dX12_feed_62 : decode cX12_feed 62 = .ok (.iload 7, 2) := by decide +kernel
theorem dX12_feed_64 : decode cX12_feed 64 = .ok (.bipush 20, 2) := by decide +kernel
theorem dX12_feed_66 : decode cX12_feed 66 = .ok (.if_icmp .ge 49, 3) := by decide +kernel
theorem dX12_feed_69 : decode cX12_feed 69 = .ok (.iload_n 1, 1) := by decide +kernel
theorem dX12_feed_70 : decode cX12_feed 70 = .ok (.iload_n 2, 1) := by decide +kernel
theorem dX12_feed_71 : decode cX12_feed 71 = .ok (.iload_n 3, 1) := by decide +kernel
theorem dX12_feed_72 : decode cX12_feed 72 = .ok (.iload 4, 2) := by decide +kernel
theorem dX12_feed_74 : decode cX12_feed 74 = .ok (.iload 5, 2) := by decide +kernel
theorem dX12_feed_76 : decode cX12_feed 76 = .ok (.iload 7, 2) := by decide +kernel
theorem dX12_feed_78 : decode cX12_feed 78 = .ok (.invokestatic 93, 3) := by decide +kernel
theorem dX12_feed_81 : decode cX12_feed 81 = .ok (.istore 8, 2) := by decide +kernel
theorem dX12_feed_83 : decode cX12_feed 83 = .ok (.iload 8, 2) := by decide +kernel
theorem dX12_feed_85 : decode cX12_feed 85 = .ok (.ifCond .eq 24, 3) := by decide +kernel
theorem dX12_feed_88 : decode cX12_feed 88 = .ok (.aload_n 0, 1) := by decide +kernel
theorem dX12_feed_89 : decode cX12_feed 89 = .ok (.getfield 9, 3) := by decide +kernel
theorem dX12_feed_92 : decode cX12_feed 92 = .ok (.aload_n 0, 1) := by decide +kernel
theorem dX12_feed_93 : decode cX12_feed 93 = .ok (.getfield 97, 3) := by decide +kernel
theorem dX12_feed_96 : decode cX12_feed 96 = .ok (.iload 8, 2) := by decide +kernel
theorem dX12_feed_98 : decode cX12_feed 98 = .ok (.iastore, 1) := by decide +kernel
theorem dX12_feed_99 : decode cX12_feed 99 = .ok (.aload_n 0, 1) := by decide +kernel
theorem dX12_feed_100 : decode cX12_feed 100 = .ok (.dup, 1) := by decide +kernel
theorem dX12_feed_101 : decode cX12_feed 101 = .ok (.getfield 97, 3) := by decide +kernel
theorem dX12_feed_104 : decode cX12_feed 104 = .ok (.iconst 1, 1) := by decide +kernel
theorem dX12_feed_105 : decode cX12_feed 105 = .ok (.iadd, 1) := by decide +kernel
theorem dX12_feed_106 : decode cX12_feed 106 = .ok (.putfield 97, 3) := by decide +kernel
theorem dX12_feed_109 : decode cX12_feed 109 = .ok (.iinc 7 1, 3) := by decide +kernel
theorem dX12_feed_112 : decode cX12_feed 112 = .ok (.goto (-50), 3) := by decide +kernel
theorem dX12_feed_115 : decode cX12_feed 115 = .ok (.aload_n 0, 1) := by decide +kernel
theorem dX12_feed_116 : decode cX12_feed 116 = .ok (.getfield 97, 3) := by decide +kernel
theorem dX12_feed_119 : decode cX12_feed 119 = .ok (.ireturn, 1) := by decide +kernel

/-- how many of the first k bytes are not 0; the tape with them behind it -/
def nzB (f : Nat → Int) (k : Nat) : Bool := decide (f k ≠ 0)
def tapF (tp : Nat → Int) (sz : Nat) (f : Nat → Int) : Nat → Nat → Int
  | 0 => tp
  | k + 1 => if f k ≠ 0 then fu (tapF tp sz f k) (sz + cntB (nzB f) k) (f k) else tapF tp sz f k
theorem cntB_mono (P : Nat → Bool) {k n : Nat} (h : k ≤ n) : cntB P k ≤ cntB P n := by
  induction n with
  | zero => rw [show k = 0 by omega]; exact Nat.le_refl _
  | succ n ih =>
    by_cases e : k = n + 1
    · rw [e]; exact Nat.le_refl _
    · have := ih (by omega)
      rw [cntB]; omega
theorem byt_rng (a b c d e : Int) (k : Nat) : -2147483648 ≤ byt a b c d e k ∧ byt a b c d e k ≤ 2147483647 := bAnd_R _ _
set_option maxHeartbeats 4000000 in
set_option maxRecDepth 100000 in
theorem ctM_feed (μ : Mm) (hs1 : 0 ≤ μ.1 0 2) (hs2 : μ.1 0 2 ≤ 240) (a b c d e : Int) : CtE PM 1 yX12_feed cX12_feed 9 (some .int) [vR 0, vI a, vI b, vI c, vI d, vI e] μ (fun r m => r = (if 240 < μ.1 0 2 + cntB (nzB (byt a b c d e)) 20 then -1 else μ.1 0 2 + cntB (nzB (byt a b c d e)) 20) ∧ m = (if 240 < μ.1 0 2 + cntB (nzB (byt a b c d e)) 20 then μ else mst (mrow μ 1 (tapF (μ.1 1) (μ.1 0 2).toNat (byt a b c d e) 20)) 0 2 (((μ.1 0 2).toNat + cntB (nzB (byt a b c d e)) 20 : Nat) : Int))) := by
  refine ct_intro [some (vR 0), some (vI a), some (vI b), some (vI c), some (vI d), some (vI e), none, none, none] RX12 (by decide) rfl XM rfl (Nat.le_of_ble_eq_true rfl) (fun K hO => ?_)
  have hk20 := cntB_le (nzB (byt a b c d e)) 20
  have lp2 : (μ.1 0 2 + cntB (nzB (byt a b c d e)) 20 ≤ 240) → ∀ (c0 k : Nat) (m : Mm), k + c0 = 20 → m = mst (mrow μ 1 (tapF (μ.1 1) (μ.1 0 2).toNat (byt a b c d e) k)) 0 2 (((μ.1 0 2).toNat + cntB (nzB (byt a b c d e)) k : Nat) : Int) → AW K 62 [some (vR 0), some (vI a), some (vI b), some (vI c), some (vI d), some (vI e), some (vI (((cntB (nzB (byt a b c d e)) 20) : Nat) : Int)), some (vI ((k : Nat) : Int)), none] [] m := by
    intro hfit c0
    induction c0 with
    | zero =>
      intro k m hk hm
      have hmo := cntB_mono (nzB (byt a b c d e)) (k := k) (n := 20) (by omega)
      refine aw_iload hO dX12_feed_62 rfl rfl ?_
      refine aw_bipush hO dX12_feed_64 rfl (by decide) (by decide) ?_
      refine aw_icmp_ge (tgt := 115) hO dX12_feed_66 rfl rfl (inRn (by omega)) (inRlit _) (fun c66 => ?_) (fun c66 => ?_)
      · refine aw_aload_n hO dX12_feed_115 rfl rfl ?_
        refine gM_size hO dX12_feed_116 rfl ?_
        refine aw_cg (show m.1 0 2 = (((μ.1 0 2).toNat + cntB (nzB (byt a b c d e)) k : Nat) : Int) by rw [hm, mst_eq]) ?_
        refine aw_iret hO dX12_feed_119 ?_
        exact ⟨_, rfl, by rw [if_neg (by omega), show k = 20 by omega]; omega, by rw [if_neg (by omega), hm, show k = 20 by omega]⟩
      · exact absurd c66 (by omega)
    | succ c0 ih =>
      intro k m hk hm
      have hmo := cntB_mono (nzB (byt a b c d e)) (k := k) (n := 20) (by omega)
      have hbr := byt_rng a b c d e k
      refine aw_iload hO dX12_feed_62 rfl rfl ?_
      refine aw_bipush hO dX12_feed_64 rfl (by decide) (by decide) ?_
      refine aw_icmp_ge (tgt := 115) hO dX12_feed_66 rfl rfl (inRn (by omega)) (inRlit _) (fun c66 => ?_) (fun c66 => ?_)
      · exact absurd c66 (by omega)
      · refine aw_iload_n hO dX12_feed_69 rfl rfl ?_
        refine aw_iload_n hO dX12_feed_70 rfl rfl ?_
        refine aw_iload_n hO dX12_feed_71 rfl rfl ?_
        refine aw_iload hO dX12_feed_72 rfl rfl ?_
        refine aw_iload hO dX12_feed_74 rfl rfl ?_
        refine aw_iload hO dX12_feed_76 rfl rfl ?_
        refine aw_callSI (as := [vI a, vI b, vI c, vI d, vI e, vI ((k : Nat) : Int)]) (st := []) hO dX12_feed_78 rfl (lw_t6 122 rfl rfl) kX12_byteOf (ctM_byteOf m a b c d e (k := k) (by omega)) (by decide) rfl rfl rfl (Nat.le_of_ble_eq_true rfl) ?_
        refine aw_istore (ls' := [some (vR 0), some (vI a), some (vI b), some (vI c), some (vI d), some (vI e), some (vI (((cntB (nzB (byt a b c d e)) 20) : Nat) : Int)), some (vI ((k : Nat) : Int)), some (vI (byt a b c d e k))]) hO dX12_feed_81 rfl (Nat.le_of_ble_eq_true rfl) rfl rfl ?_
        refine aw_iload hO dX12_feed_83 rfl rfl ?_
        refine aw_if_eq (tgt := 109) hO dX12_feed_85 rfl rfl ⟨by omega, by omega⟩ (fun c85 => ?_) (fun c85 => ?_)
        · refine aw_iinc (ls' := [some (vR 0), some (vI a), some (vI b), some (vI c), some (vI d), some (vI e), some (vI (((cntB (nzB (byt a b c d e)) 20) : Nat) : Int)), some (vI (((k : Nat) : Int) + 1)), some (vI (byt a b c d e k))]) hO dX12_feed_109 rfl rfl rfl rfl ?_
          refine aw_lsq (ls' := [some (vR 0), some (vI a), some (vI b), some (vI c), some (vI d), some (vI e), some (vI (((cntB (nzB (byt a b c d e)) 20) : Nat) : Int)), some (vI (((k + 1) : Nat) : Int)), some (vI (byt a b c d e k))]) rfl ?_
          refine aw_goto (tgt := 62) hO dX12_feed_112 rfl ?_
          refine aw_fg (ls' := [some (vR 0), some (vI a), some (vI b), some (vI c), some (vI d), some (vI e), some (vI (((cntB (nzB (byt a b c d e)) 20) : Nat) : Int)), some (vI (((k + 1) : Nat) : Int)), none]) ⟨rfl, rfl, rfl, rfl, rfl, rfl, rfl, rfl, trivial⟩ ?_
          exact ih (k + 1) m (by omega) (by rw [hm, tapF, if_neg (fun q => q c85), cntB_f (by unfold nzB; simp [c85])])
        · have hnz : nzB (byt a b c d e) k = true := by unfold nzB; exact decide_eq_true c85
          have hmo1 := cntB_mono (nzB (byt a b c d e)) (k := k + 1) (n := 20) (by omega)
          rw [cntB_t hnz] at hmo1
          refine aw_aload_n hO dX12_feed_88 rfl rfl ?_
          refine gM_tape hO dX12_feed_89 rfl ?_
          refine aw_aload_n hO dX12_feed_92 rfl rfl ?_
          refine gM_size hO dX12_feed_93 rfl ?_
          refine aw_cg (show m.1 0 2 = (((μ.1 0 2).toNat + cntB (nzB (byt a b c d e)) k : Nat) : Int) by rw [hm, mst_eq]) ?_
          refine aw_iload hO dX12_feed_96 rfl rfl ?_
          refine aw_iastn (N := 240) (i := ((μ.1 0 2).toNat + cntB (nzB (byt a b c d e)) k)) hO dX12_feed_98 rfl (by decide) rfl (by decide) (by omega) (by omega) ?_
          refine aw_mm (fun μ1 e_μ1 => ?_)
          refine aw_aload_n hO dX12_feed_99 rfl rfl ?_
          refine aw_dup hO dX12_feed_100 rfl rfl ?_
          refine gM_size hO dX12_feed_101 rfl ?_
          refine aw_cg (show μ1.1 0 2 = (((μ.1 0 2).toNat + cntB (nzB (byt a b c d e)) k : Nat) : Int) by rw [e_μ1, mst_nk (by decide), hm, mst_eq]) ?_
          refine aw_iconst hO dX12_feed_104 rfl ?_
          refine aw_iadd hO dX12_feed_105 rfl ?_
          refine pM_size hO dX12_feed_106 rfl ?_
          refine aw_mm (fun μ2 e_μ2 => ?_)
          refine aw_iinc (ls' := [some (vR 0), some (vI a), some (vI b), some (vI c), some (vI d), some (vI e), some (vI (((cntB (nzB (byt a b c d e)) 20) : Nat) : Int)), some (vI (((k : Nat) : Int) + 1)), some (vI (byt a b c d e k))]) hO dX12_feed_109 rfl rfl rfl rfl ?_
          refine aw_lsq (ls' := [some (vR 0), some (vI a), some (vI b), some (vI c), some (vI d), some (vI e), some (vI (((cntB (nzB (byt a b c d e)) 20) : Nat) : Int)), some (vI (((k + 1) : Nat) : Int)), some (vI (byt a b c d e k))]) rfl ?_
          refine aw_goto (tgt := 62) hO dX12_feed_112 rfl ?_
          refine aw_fg (ls' := [some (vR 0), some (vI a), some (vI b), some (vI c), some (vI d), some (vI e), some (vI (((cntB (nzB (byt a b c d e)) 20) : Nat) : Int)), some (vI (((k + 1) : Nat) : Int)), none]) ⟨rfl, rfl, rfl, rfl, rfl, rfl, rfl, rfl, trivial⟩ ?_
          exact ih (k + 1) μ2 (by omega) (by rw [e_μ2, e_μ1, hm, tapF, if_pos c85, cntB_t hnz, ← mst_mrow]; unfold mst; refine Prod.ext (funext fun k1 => funext fun i1 => ?_) rfl; simp only; by_cases q1 : k1 = 0 ∧ i1 = 2; (simp [q1]; omega); (by_cases q2 : k1 = 1 ∧ i1 = (μ.1 0 2).toNat + cntB (nzB (byt a b c d e)) k <;> simp [q1, q2]))
  have lp1 : ∀ (c0 : Nat) (k : Nat), (k + c0 = 20) → AW K 6 [some (vR 0), some (vI a), some (vI b), some (vI c), some (vI d), some (vI e), some (vI (((cntB (nzB (byt a b c d e)) k) : Nat) : Int)), some (vI ((k : Nat) : Int)), none] [] μ := by
    intro c0
    induction c0 with
    | zero =>
      intro k hk
      have hcl := cntB_le (nzB (byt a b c d e)) k
      refine aw_iload hO dX12_feed_6 rfl rfl ?_
      refine aw_bipush hO dX12_feed_8 rfl (by decide) (by decide) ?_
      refine aw_icmp_ge (tgt := 44) hO dX12_feed_10 rfl rfl (inRn (by omega)) (inRlit _) (fun c10 => ?_) (fun c10 => ?_)
      · have hk2 : k = 20 := by omega
        refine aw_aload_n hO dX12_feed_44 rfl rfl ?_
        refine gM_size hO dX12_feed_45 rfl ?_
        refine aw_iload hO dX12_feed_48 rfl rfl ?_
        refine aw_iadd hO dX12_feed_50 rfl ?_
        refine aw_sipush hO dX12_feed_51 rfl (by decide) (by decide) ?_
        refine aw_icmp_le (tgt := 59) hO dX12_feed_54 rfl rfl ⟨by omega, by omega⟩ (inRlit _) (fun c54 => ?_) (fun c54 => ?_)
        · refine aw_iconst hO dX12_feed_59 rfl ?_
          refine aw_istore (ls' := [some (vR 0), some (vI a), some (vI b), some (vI c), some (vI d), some (vI e), some (vI (((cntB (nzB (byt a b c d e)) k) : Nat) : Int)), some (vI 0), none]) hO dX12_feed_60 rfl (Nat.le_of_ble_eq_true rfl) rfl rfl ?_
          refine aw_lsq (ls' := [some (vR 0), some (vI a), some (vI b), some (vI c), some (vI d), some (vI e), some (vI (((cntB (nzB (byt a b c d e)) 20) : Nat) : Int)), some (vI ((0 : Nat) : Int)), none]) (by rw [hk2]; rfl) ?_
          exact lp2 (by rw [← hk2]; omega) 20 0 μ rfl (by show μ = mst (mrow μ 1 (μ.1 1)) 0 2 _; rw [mrow_self]; unfold mst; refine Prod.ext (funext fun k1 => funext fun i1 => ?_) rfl; simp only; by_cases q1 : k1 = 0 ∧ i1 = 2; (simp [q1, cntB]; omega); (simp [q1]))
        · refine aw_iconst hO dX12_feed_57 rfl ?_
          refine aw_iret hO dX12_feed_58 ?_
          exact ⟨_, rfl, by rw [← hk2, if_pos (by omega)], by rw [← hk2, if_pos (by omega)]⟩
      · exact absurd c10 (by omega)
    | succ c0 ih =>
      intro k hk
      have hcl := cntB_le (nzB (byt a b c d e)) k
      refine aw_iload hO dX12_feed_6 rfl rfl ?_
      refine aw_bipush hO dX12_feed_8 rfl (by decide) (by decide) ?_
      refine aw_icmp_ge (tgt := 44) hO dX12_feed_10 rfl rfl (inRn (by omega)) (inRlit _) (fun c10 => ?_) (fun c10 => ?_)
      · exact absurd c10 (by omega)
      · refine aw_iload hO dX12_feed_13 rfl rfl ?_
        refine aw_iload_n hO dX12_feed_15 rfl rfl ?_
        refine aw_iload_n hO dX12_feed_16 rfl rfl ?_
        refine aw_iload_n hO dX12_feed_17 rfl rfl ?_
        refine aw_iload hO dX12_feed_18 rfl rfl ?_
        refine aw_iload hO dX12_feed_20 rfl rfl ?_
        refine aw_iload hO dX12_feed_22 rfl rfl ?_
        refine aw_callSI (as := [vI a, vI b, vI c, vI d, vI e, vI ((k : Nat) : Int)]) (st := [vI (((cntB (nzB (byt a b c d e)) k) : Nat) : Int)]) hO dX12_feed_24 rfl (lw_t6 122 rfl rfl) kX12_byteOf (ctM_byteOf μ a b c d e (k := k) (by omega)) (by decide) rfl rfl rfl (Nat.le_of_ble_eq_true rfl) ?_
        refine aw_if_eq (tgt := 34) hO dX12_feed_27 rfl rfl ⟨by have := byt_rng a b c d e k; omega, by have := byt_rng a b c d e k; omega⟩ (fun c27 => ?_) (fun c27 => ?_)
        · refine aw_iconst hO dX12_feed_34 rfl ?_
          refine aw_iadd hO dX12_feed_35 rfl ?_
          refine aw_istore (ls' := [some (vR 0), some (vI a), some (vI b), some (vI c), some (vI d), some (vI e), some (vI ((((cntB (nzB (byt a b c d e)) k) : Nat) : Int) + 0)), some (vI ((k : Nat) : Int)), none]) hO dX12_feed_36 rfl (Nat.le_of_ble_eq_true rfl) rfl rfl ?_
          refine aw_iinc (ls' := [some (vR 0), some (vI a), some (vI b), some (vI c), some (vI d), some (vI e), some (vI ((((cntB (nzB (byt a b c d e)) k) : Nat) : Int) + 0)), some (vI (((k : Nat) : Int) + 1)), none]) hO dX12_feed_38 rfl rfl rfl rfl ?_
          refine aw_lsq (ls' := [some (vR 0), some (vI a), some (vI b), some (vI c), some (vI d), some (vI e), some (vI ((((cntB (nzB (byt a b c d e)) k) : Nat) : Int) + 0)), some (vI (((k + 1) : Nat) : Int)), none]) rfl ?_
          refine aw_goto (tgt := 6) hO dX12_feed_41 rfl ?_
          refine aw_lsq (ls' := [some (vR 0), some (vI a), some (vI b), some (vI c), some (vI d), some (vI e), some (vI (((cntB (nzB (byt a b c d e)) (k + 1)) : Nat) : Int)), some (vI (((k + 1) : Nat) : Int)), none]) (by rw [cntB_f (by unfold nzB; simp [c27])]; simp) ?_
          exact ih (k + 1) (by omega)
        · refine aw_iconst hO dX12_feed_30 rfl ?_
          refine aw_goto (tgt := 35) hO dX12_feed_31 rfl ?_
          refine aw_iadd hO dX12_feed_35 rfl ?_
          refine aw_istore (ls' := [some (vR 0), some (vI a), some (vI b), some (vI c), some (vI d), some (vI e), some (vI ((((cntB (nzB (byt a b c d e)) k) : Nat) : Int) + 1)), some (vI ((k : Nat) : Int)), none]) hO dX12_feed_36 rfl (Nat.le_of_ble_eq_true rfl) rfl rfl ?_
          refine aw_iinc (ls' := [some (vR 0), some (vI a), some (vI b), some (vI c), some (vI d), some (vI e), some (vI ((((cntB (nzB (byt a b c d e)) k) : Nat) : Int) + 1)), some (vI (((k : Nat) : Int) + 1)), none]) hO dX12_feed_38 rfl rfl rfl rfl ?_
          refine aw_lsq (ls' := [some (vR 0), some (vI a), some (vI b), some (vI c), some (vI d), some (vI e), some (vI ((((cntB (nzB (byt a b c d e)) k) : Nat) : Int) + 1)), some (vI (((k + 1) : Nat) : Int)), none]) rfl ?_
          refine aw_goto (tgt := 6) hO dX12_feed_41 rfl ?_
          refine aw_lsq (ls' := [some (vR 0), some (vI a), some (vI b), some (vI c), some (vI d), some (vI e), some (vI (((cntB (nzB (byt a b c d e)) (k + 1)) : Nat) : Int)), some (vI (((k + 1) : Nat) : Int)), none]) (by rw [cntB_t (by unfold nzB; exact decide_eq_true c27)]; rfl) ?_
          exact ih (k + 1) (by omega)
  refine aw_iconst hO dX12_feed_0 rfl ?_
  refine aw_istore (ls' := [some (vR 0), some (vI a), some (vI b), some (vI c), some (vI d), some (vI e), some (vI 0), none, none]) hO dX12_feed_1 rfl (Nat.le_of_ble_eq_true rfl) rfl rfl ?_
  refine aw_iconst hO dX12_feed_3 rfl ?_
  refine aw_istore (ls' := [some (vR 0), some (vI a), some (vI b), some (vI c), some (vI d), some (vI e), some (vI 0), some (vI 0), none]) hO dX12_feed_4 rfl (Nat.le_of_ble_eq_true rfl) rfl rfl ?_
  refine aw_lsq (ls' := [some (vR 0), some (vI a), some (vI b), some (vI c), some (vI d), some (vI e), some (vI (((cntB (nzB (byt a b c d e)) 0) : Nat) : Int)), some (vI ((0 : Nat) : Int)), none]) rfl ?_
  exact lp1 20 0 rfl
