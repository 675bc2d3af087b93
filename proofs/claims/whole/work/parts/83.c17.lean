/-! ## the class reads a town -/
def kap (k : Nat) : Int := if k = 0 then 115 else if k = 1 then 112 else 116
def nK (k : Nat) : Nat := if k = 2 then 3 else 4
def fI (k : Nat) (c : Int) : Nat → Nat → Int
  | 0, _ => -1
  | n + 1, j => if 0 < c ∧ stV 2 (4 * k + j) = c then (j : Int) else fI k c n (j + 1)
theorem fI_all : ∀ k : Fin 3, ∀ c : Fin 257, fI k.val ((c.val : Nat) - 1 : Int) 4 0 = itO (kap k.val) ((c.val : Nat) - 1 : Int) := by decide +kernel
theorem fI_it {k : Nat} {c : Int} (hk : k < 3) (h1 : -1 ≤ c) (h2 : c ≤ 255) : fI k c 4 0 = itO (kap k) c := by
  have := fI_all ⟨k, hk⟩ ⟨(c + 1).toNat, by omega⟩
  simp only [Int.toNat_of_nonneg (show 0 ≤ c + 1 by omega), show c + 1 - 1 = c by omega] at this
  exact this
theorem lohi_all : ∀ k : Fin 3, ∀ i : Fin 4, (i.val < nK k.val → stV 3 (4 * k.val + i.val) = loO (kap k.val) ((i.val : Nat) : Int) ∧ stV 4 (4 * k.val + i.val) = hiO (kap k.val) ((i.val : Nat) : Int) ∧ stV 5 (4 * k.val + i.val) = usR (kap k.val) i.val) := by decide +kernel
theorem stV_rng : ∀ t : Fin 6, ∀ j : Fin 12, 0 ≤ stV t.val j.val ∧ stV t.val j.val ≤ 255 := by decide +kernel
theorem stV_R {t j : Nat} (ht : t < 6) (hj : j < 12) : 0 ≤ stV t j ∧ stV t j ≤ 255 := stV_rng ⟨t, ht⟩ ⟨j, hj⟩
theorem itO_nK {k : Nat} {c : Int} (hk : k < 3) (h : itO (kap k) c ≠ -1) : (itO (kap k) c).toNat < nK k := by
  have h1 := itO_rng (kap k) c
  unfold nK
  split
  · rename_i e
    have := itO_3 (κ := kap k) (c := c) (by rw [e]; decide) (by rw [e]; decide)
    omega
  · omega
theorem mst_mst6 : True := trivial
theorem dX10_startRow_0 : decode cX10_startRow 0 = .ok (.getstatic 81, 3) := by decide +kernel
theorem dX10_startRow_3 : decode cX10_startRow 3 = .ok (.iload_n 1, 1) := by decide +kernel
theorem dX10_startRow_4 : decode cX10_startRow 4 = .ok (.iconst 4, 1) := by decide +kernel
theorem dX10_startRow_5 : decode cX10_startRow 5 = .ok (.imul, 1) := by decide +kernel
theorem dX10_startRow_6 : decode cX10_startRow 6 = .ok (.aload_n 0, 1) := by decide +kernel
theorem dX10_startRow_7 : decode cX10_startRow 7 = .ok (.getfield 12, 3) := by decide +kernel
theorem dX10_startRow_10 : decode cX10_startRow 10 = .ok (.getfield 84, 3) := by decide +kernel
theorem dX10_startRow_13 : decode cX10_startRow 13 = .ok (.iload_n 2, 1) := by decide +kernel
theorem dX10_startRow_14 : decode cX10_startRow 14 = .ok (.iconst 4, 1) := by decide +kernel
theorem dX10_startRow_15 : decode cX10_startRow 15 = .ok (.imul, 1) := by decide +kernel
theorem dX10_startRow_16 : decode cX10_startRow 16 = .ok (.iconst 4, 1) := by decide +kernel
theorem dX10_startRow_17 : decode cX10_startRow 17 = .ok (.invokestatic 87, 3) := by decide +kernel
theorem dX10_startRow_20 : decode cX10_startRow 20 = .ok (.return_, 1) := by decide +kernel
set_option maxRecDepth 100000 in
theorem gC_X10_12_4 {Q : Option AV → Mm → Prop} {K : KT} {cc : ByteArray} {nL d : Nat} {ret : Option FieldType} {pc n : Nat} {ls : List (Option AV)} {st : List AV} {μ : Mm} (hO : KOk PC Q K cc RX10 nL d ret) (hd : decode cc pc = .ok (.getfield 12, 3)) (hn : pc + 3 = n) (kk : AW K n ls (vR 5 :: st) μ) : AW K pc ls (vR 4 :: st) μ := aw_get (f := 1) hO hd hn okX10 (by decide) (lw_t1 98 rfl rfl) (by decide) rfl rfl rfl kk
set_option maxRecDepth 100000 in
theorem gC_X10_84_5 {Q : Option AV → Mm → Prop} {K : KT} {cc : ByteArray} {nL d : Nat} {ret : Option FieldType} {pc n : Nat} {ls : List (Option AV)} {st : List AV} {μ : Mm} (hO : KOk PC Q K cc RX10 nL d ret) (hd : decode cc pc = .ok (.getfield 84, 3)) (hn : pc + 3 = n) (kk : AW K n ls (vR 6 :: st) μ) : AW K pc ls (vR 5 :: st) μ := aw_getN (f := 0) hO hd hn okX9 (by decide) (lw_t1n 76 rfl rfl) (by decide) rfl rfl rfl kk
set_option maxHeartbeats 4000000 in
set_option maxRecDepth 100000 in
theorem cT_startRow (μ : Mm) {k r : Nat} (hk : k < 3) (hr : r < 12) : CtV PC 1 yX10_startRow cX10_startRow 3 none [vR 4, vI ((k : Nat) : Int), vI ((r : Nat) : Int)] μ (fun m => m = mtb μ 6 5 (4 * r) (4 * k) 4) := by
  refine ct_intro [some (vR 4), some (vI ((k : Nat) : Int)), some (vI ((r : Nat) : Int))] RX10 (by decide) rfl XCo rfl (Nat.le_of_ble_eq_true rfl) (fun K hO => ?_)
  refine aw_gst (i := 5) hO dX10_startRow_0 rfl (by decide) (lw_t2 127 rfl rfl) ?_
  refine aw_iload_n hO dX10_startRow_3 rfl rfl ?_
  refine aw_iconst hO dX10_startRow_4 rfl ?_
  refine aw_imul hO dX10_startRow_5 rfl ?_
  refine aw_aload_n hO dX10_startRow_6 rfl rfl ?_
  refine gC_X10_12_4 hO dX10_startRow_7 rfl ?_
  refine gC_X10_84_5 hO dX10_startRow_10 rfl ?_
  refine aw_iload_n hO dX10_startRow_13 rfl rfl ?_
  refine aw_iconst hO dX10_startRow_14 rfl ?_
  refine aw_imul hO dX10_startRow_15 rfl ?_
  refine aw_iconst hO dX10_startRow_16 rfl ?_
  refine aw_cpyT (ty := .int) (i := 5) (sp := (k * 4)) (dp := (r * 4)) (m := 4) hO dX10_startRow_17 rfl (lw_t2 129 rfl rfl) cpw (by decide) (by decide) rfl (by decide) (by decide) (by omega) (by omega) rfl (by show _ ≤ 12; omega) (by omega) (by decide) rfl (Nat.le_of_ble_eq_true rfl) ?_
  refine aw_mm (fun μ1 e_μ1 => ?_)
  refine aw_vret hO dX10_startRow_20 ?_
  exact ⟨rfl, by rw [e_μ1, Nat.mul_comm r 4, Nat.mul_comm k 4]⟩
theorem dX10_itemOf_0 : decode cX10_itemOf 0 = .ok (.iconst 0, 1) := by decide +kernel
theorem dX10_itemOf_1 : decode cX10_itemOf 1 = .ok (.istore_n 2, 1) := by decide +kernel
theorem dX10_itemOf_2 : decode cX10_itemOf 2 = .ok (.iload_n 2, 1) := by decide +kernel
theorem dX10_itemOf_3 : decode cX10_itemOf 3 = .ok (.iconst 4, 1) := by decide +kernel
theorem dX10_itemOf_4 : decode cX10_itemOf 4 = .ok (.if_icmp .ge 28, 3) := by decide +kernel
theorem dX10_itemOf_7 : decode cX10_itemOf 7 = .ok (.iload_n 1, 1) := by decide +kernel
theorem dX10_itemOf_8 : decode cX10_itemOf 8 = .ok (.ifCond .le 18, 3) := by decide +kernel
theorem dX10_itemOf_11 : decode cX10_itemOf 11 = .ok (.getstatic 109, 3) := by decide +kernel
theorem dX10_itemOf_14 : decode cX10_itemOf 14 = .ok (.iload_n 0, 1) := by decide +kernel
theorem dX10_itemOf_15 : decode cX10_itemOf 15 = .ok (.iconst 4, 1) := by decide +kernel
theorem dX10_itemOf_16 : decode cX10_itemOf 16 = .ok (.imul, 1) := by decide +kernel
theorem dX10_itemOf_17 : decode cX10_itemOf 17 = .ok (.iload_n 2, 1) := by decide +kernel
theorem dX10_itemOf_18 : decode cX10_itemOf 18 = .ok (.iadd, 1) := by decide +kernel
theorem dX10_itemOf_19 : decode cX10_itemOf 19 = .ok (.iaload, 1) := by decide +kernel
theorem dX10_itemOf_20 : decode cX10_itemOf 20 = .ok (.iload_n 1, 1) := by decide +kernel
theorem dX10_itemOf_21 : decode cX10_itemOf 21 = .ok (.if_icmp .ne 5, 3) := by decide +kernel
theorem dX10_itemOf_24 : decode cX10_itemOf 24 = .ok (.iload_n 2, 1) := by decide +kernel
theorem dX10_itemOf_25 : decode cX10_itemOf 25 = .ok (.ireturn, 1) := by decide +kernel
theorem dX10_itemOf_26 : decode cX10_itemOf 26 = .ok (.iinc 2 1, 3) := by decide +kernel
theorem dX10_itemOf_29 : decode cX10_itemOf 29 = .ok (.goto (-27), 3) := by decide +kernel
theorem dX10_itemOf_32 : decode cX10_itemOf 32 = .ok (.iconst (-1), 1) := by decide +kernel
theorem dX10_itemOf_33 : decode cX10_itemOf 33 = .ok (.ireturn, 1) := by decide +kernel
set_option maxHeartbeats 4000000 in
set_option maxRecDepth 100000 in
theorem cT_itemOf (μ : Mm) {k : Nat} {c : Int} (hk : k < 3) (h1 : -1 ≤ c) (h2 : c ≤ 255) : CtI PC 0 yX10_itemOf cX10_itemOf 3 (some .int) [vI ((k : Nat) : Int), vI c] μ (itO (kap k) c) := by
  refine ct_intro [some (vI ((k : Nat) : Int)), some (vI c), none] RX10 (by decide) rfl XCo rfl (Nat.le_of_ble_eq_true rfl) (fun K hO => ?_)
  have lp : ∀ (n : Nat) (j : Nat), (j + n = 4) → (fI k c n j = itO (kap k) c) → AW K 2 [some (vI ((k : Nat) : Int)), some (vI c), some (vI ((j : Nat) : Int))] [] μ := by
    intro n
    induction n with
    | zero =>
      intro j hj hr
      refine aw_iload_n hO dX10_itemOf_2 rfl rfl ?_
      refine aw_iconst hO dX10_itemOf_3 rfl ?_
      refine aw_icmp_ge (tgt := 32) hO dX10_itemOf_4 rfl rfl (inRn (by omega)) (inRlit _) (fun c4 => ?_) (fun c4 => ?_)
      · refine aw_iconst hO dX10_itemOf_32 rfl ?_
        refine aw_iret hO dX10_itemOf_33 ?_
        exact rI (by rw [fI] at hr; exact hr)
      · exact absurd c4 (by omega)
    | succ n ih =>
      intro j hj hr
      refine aw_iload_n hO dX10_itemOf_2 rfl rfl ?_
      refine aw_iconst hO dX10_itemOf_3 rfl ?_
      refine aw_icmp_ge (tgt := 32) hO dX10_itemOf_4 rfl rfl (inRn (by omega)) (inRlit _) (fun c4 => ?_) (fun c4 => ?_)
      · exact absurd c4 (by omega)
      · refine aw_iload_n hO dX10_itemOf_7 rfl rfl ?_
        refine aw_if_le (tgt := 26) hO dX10_itemOf_8 rfl rfl ⟨by omega, by omega⟩ (fun c8 => ?_) (fun c8 => ?_)
        · refine aw_iinc (ls' := [some (vI ((k : Nat) : Int)), some (vI c), some (vI (((j : Nat) : Int) + 1))]) hO dX10_itemOf_26 rfl rfl rfl rfl ?_
          refine aw_lsq (ls' := [some (vI ((k : Nat) : Int)), some (vI c), some (vI (((j + 1) : Nat) : Int))]) rfl ?_
          refine aw_goto (tgt := 2) hO dX10_itemOf_29 rfl ?_
          refine aw_lsq (ls' := [some (vI ((k : Nat) : Int)), some (vI c), some (vI (((j + 1) : Nat) : Int))]) rfl ?_
          exact ih (j + 1) (by omega) (by rw [fI, if_neg (fun q => by have := q.1; omega)] at hr; exact hr)
        · refine aw_gst (i := 2) hO dX10_itemOf_11 rfl (by decide) (lw_t2 237 rfl rfl) ?_
          refine aw_iload_n hO dX10_itemOf_14 rfl rfl ?_
          refine aw_iconst hO dX10_itemOf_15 rfl ?_
          refine aw_imul hO dX10_itemOf_16 rfl ?_
          refine aw_iload_n hO dX10_itemOf_17 rfl rfl ?_
          refine aw_iadd hO dX10_itemOf_18 rfl ?_
          refine aw_tld (i := 2) (j := (4 * k + j)) hO dX10_itemOf_19 rfl (by decide) (by omega) (by show _ < 12; omega) (by decide) ?_
          refine aw_iload_n hO dX10_itemOf_20 rfl rfl ?_
          refine aw_icmp_ne (tgt := 26) hO dX10_itemOf_21 rfl rfl ⟨by have := stV_R (t := 2) (j := 4 * k + j) (by decide) (by omega); omega, by have := stV_R (t := 2) (j := 4 * k + j) (by decide) (by omega); omega⟩ ⟨by omega, by omega⟩ (fun c21 => ?_) (fun c21 => ?_)
          · refine aw_iinc (ls' := [some (vI ((k : Nat) : Int)), some (vI c), some (vI (((j : Nat) : Int) + 1))]) hO dX10_itemOf_26 rfl rfl rfl rfl ?_
            refine aw_lsq (ls' := [some (vI ((k : Nat) : Int)), some (vI c), some (vI (((j + 1) : Nat) : Int))]) rfl ?_
            refine aw_goto (tgt := 2) hO dX10_itemOf_29 rfl ?_
            refine aw_lsq (ls' := [some (vI ((k : Nat) : Int)), some (vI c), some (vI (((j + 1) : Nat) : Int))]) rfl ?_
            exact ih (j + 1) (by omega) (by rw [fI, if_neg (fun q => c21 q.2)] at hr; exact hr)
          · refine aw_iload_n hO dX10_itemOf_24 rfl rfl ?_
            refine aw_iret hO dX10_itemOf_25 ?_
            exact rI (by rw [fI, if_pos ⟨c8, c21⟩] at hr; exact hr)
  refine aw_iconst hO dX10_itemOf_0 rfl ?_
  refine aw_istore_n (ls' := [some (vI ((k : Nat) : Int)), some (vI c), some (vI 0)]) hO dX10_itemOf_1 rfl (Nat.le_of_ble_eq_true rfl) rfl rfl ?_
  refine aw_lsq (ls' := [some (vI ((k : Nat) : Int)), some (vI c), some (vI ((0 : Nat) : Int))]) rfl ?_
  exact lp 4 0 rfl (fI_it hk h1 h2)
def iS (r k i : Nat) : Prop := tS k i ∨ (k = 6 ∧ 4 * r ≤ i ∧ i < 4 * r + 4)
theorem TO.is {g : Nat → Int} {N r : Nat} {μ m : Mm} (h : TO g N μ) (hF : Fr (iS r) μ m) : TO g N m := h.fr (hF.1 1 2 (by unfold iS tS; omega)) (hF.fn (fun i => by unfold iS tS; omega)) (hF.fn (fun i => by unfold iS tS; omega))
theorem dX10_readItems_0 : decode cX10_readItems 0 = .ok (.iconst 0, 1) := by decide +kernel
theorem dX10_readItems_1 : decode cX10_readItems 1 = .ok (.istore_n 3, 1) := by decide +kernel
theorem dX10_readItems_2 : decode cX10_readItems 2 = .ok (.iconst 0, 1) := by decide +kernel
theorem dX10_readItems_3 : decode cX10_readItems 3 = .ok (.istore 4, 2) := by decide +kernel
theorem dX10_readItems_5 : decode cX10_readItems 5 = .ok (.iload 4, 2) := by decide +kernel
theorem dX10_readItems_7 : decode cX10_readItems 7 = .ok (.iconst 4, 1) := by decide +kernel
theorem dX10_readItems_8 : decode cX10_readItems 8 = .ok (.if_icmp .ge 143, 3) := by decide +kernel
theorem dX10_readItems_11 : decode cX10_readItems 11 = .ok (.iload_n 1, 1) := by decide +kernel
theorem dX10_readItems_12 : decode cX10_readItems 12 = .ok (.aload_n 0, 1) := by decide +kernel
theorem dX10_readItems_13 : decode cX10_readItems 13 = .ok (.getfield 22, 3) := by decide +kernel
theorem dX10_readItems_16 : decode cX10_readItems 16 = .ok (.invokevirtual 59, 3) := by decide +kernel
theorem dX10_readItems_19 : decode cX10_readItems 19 = .ok (.invokestatic 93, 3) := by decide +kernel
theorem dX10_readItems_22 : decode cX10_readItems 22 = .ok (.istore 5, 2) := by decide +kernel
theorem dX10_readItems_24 : decode cX10_readItems 24 = .ok (.iload 5, 2) := by decide +kernel
theorem dX10_readItems_26 : decode cX10_readItems 26 = .ok (.iconst (-1), 1) := by decide +kernel
theorem dX10_readItems_27 : decode cX10_readItems 27 = .ok (.if_icmp .eq 13, 3) := by decide +kernel
theorem dX10_readItems_30 : decode cX10_readItems 30 = .ok (.iload_n 3, 1) := by decide +kernel
theorem dX10_readItems_31 : decode cX10_readItems 31 = .ok (.iload 5, 2) := by decide +kernel
theorem dX10_readItems_33 : decode cX10_readItems 33 = .ok (.ishr, 1) := by decide +kernel
theorem dX10_readItems_34 : decode cX10_readItems 34 = .ok (.iconst 1, 1) := by decide +kernel
theorem dX10_readItems_35 : decode cX10_readItems 35 = .ok (.iand, 1) := by decide +kernel
theorem dX10_readItems_36 : decode cX10_readItems 36 = .ok (.iconst 1, 1) := by decide +kernel
theorem dX10_readItems_37 : decode cX10_readItems 37 = .ok (.if_icmp .ne 5, 3) := by decide +kernel
theorem dX10_readItems_40 : decode cX10_readItems 40 = .ok (.iconst 1, 1) := by decide +kernel
theorem dX10_readItems_41 : decode cX10_readItems 41 = .ok (.ireturn, 1) := by decide +kernel
theorem dX10_readItems_42 : decode cX10_readItems 42 = .ok (.iload_n 3, 1) := by decide +kernel
theorem dX10_readItems_43 : decode cX10_readItems 43 = .ok (.iconst 1, 1) := by decide +kernel
theorem dX10_readItems_44 : decode cX10_readItems 44 = .ok (.iload 5, 2) := by decide +kernel
theorem dX10_readItems_46 : decode cX10_readItems 46 = .ok (.ishl, 1) := by decide +kernel
theorem dX10_readItems_47 : decode cX10_readItems 47 = .ok (.ior, 1) := by decide +kernel
theorem dX10_readItems_48 : decode cX10_readItems 48 = .ok (.istore_n 3, 1) := by decide +kernel
theorem dX10_readItems_49 : decode cX10_readItems 49 = .ok (.aload_n 0, 1) := by decide +kernel
theorem dX10_readItems_50 : decode cX10_readItems 50 = .ok (.getfield 22, 3) := by decide +kernel
theorem dX10_readItems_53 : decode cX10_readItems 53 = .ok (.aload_n 0, 1) := by decide +kernel
theorem dX10_readItems_54 : decode cX10_readItems 54 = .ok (.getfield 22, 3) := by decide +kernel
theorem dX10_readItems_57 : decode cX10_readItems 57 = .ok (.invokevirtual 59, 3) := by decide +kernel
theorem dX10_readItems_60 : decode cX10_readItems 60 = .ok (.i2c, 1) := by decide +kernel
theorem dX10_readItems_61 : decode cX10_readItems 61 = .ok (.invokevirtual 49, 3) := by decide +kernel
theorem dX10_readItems_64 : decode cX10_readItems 64 = .ok (.pop, 1) := by decide +kernel
theorem dX10_readItems_65 : decode cX10_readItems 65 = .ok (.aload_n 0, 1) := by decide +kernel
theorem dX10_readItems_66 : decode cX10_readItems 66 = .ok (.getfield 22, 3) := by decide +kernel
theorem dX10_readItems_69 : decode cX10_readItems 69 = .ok (.iconst 2, 1) := by decide +kernel
theorem dX10_readItems_70 : decode cX10_readItems 70 = .ok (.invokevirtual 97, 3) := by decide +kernel
theorem dX10_readItems_73 : decode cX10_readItems 73 = .ok (.istore 6, 2) := by decide +kernel
theorem dX10_readItems_75 : decode cX10_readItems 75 = .ok (.iload 6, 2) := by decide +kernel
theorem dX10_readItems_77 : decode cX10_readItems 77 = .ok (.iconst (-1), 1) := by decide +kernel
theorem dX10_readItems_78 : decode cX10_readItems 78 = .ok (.if_icmp .ne 5, 3) := by decide +kernel
theorem dX10_readItems_81 : decode cX10_readItems 81 = .ok (.iconst 0, 1) := by decide +kernel
theorem dX10_readItems_82 : decode cX10_readItems 82 = .ok (.ireturn, 1) := by decide +kernel
theorem dX10_readItems_83 : decode cX10_readItems 83 = .ok (.iload_n 1, 1) := by decide +kernel
theorem dX10_readItems_84 : decode cX10_readItems 84 = .ok (.iconst 4, 1) := by decide +kernel
theorem dX10_readItems_85 : decode cX10_readItems 85 = .ok (.imul, 1) := by decide +kernel
theorem dX10_readItems_86 : decode cX10_readItems 86 = .ok (.iload 5, 2) := by decide +kernel
theorem dX10_readItems_88 : decode cX10_readItems 88 = .ok (.iadd, 1) := by decide +kernel
theorem dX10_readItems_89 : decode cX10_readItems 89 = .ok (.istore 7, 2) := by decide +kernel
theorem dX10_readItems_91 : decode cX10_readItems 91 = .ok (.iload 6, 2) := by decide +kernel
theorem dX10_readItems_93 : decode cX10_readItems 93 = .ok (.getstatic 100, 3) := by decide +kernel
theorem dX10_readItems_96 : decode cX10_readItems 96 = .ok (.iload 7, 2) := by decide +kernel
theorem dX10_readItems_98 : decode cX10_readItems 98 = .ok (.iaload, 1) := by decide +kernel
theorem dX10_readItems_99 : decode cX10_readItems 99 = .ok (.if_icmp .lt 14, 3) := by decide +kernel
theorem dX10_readItems_102 : decode cX10_readItems 102 = .ok (.iload 6, 2) := by decide +kernel
theorem dX10_readItems_104 : decode cX10_readItems 104 = .ok (.getstatic 103, 3) := by decide +kernel
theorem dX10_readItems_107 : decode cX10_readItems 107 = .ok (.iload 7, 2) := by decide +kernel
theorem dX10_readItems_109 : decode cX10_readItems 109 = .ok (.iaload, 1) := by decide +kernel
theorem dX10_readItems_110 : decode cX10_readItems 110 = .ok (.if_icmp .le 19, 3) := by decide +kernel
theorem dX10_readItems_113 : decode cX10_readItems 113 = .ok (.aload_n 0, 1) := by decide +kernel
theorem dX10_readItems_114 : decode cX10_readItems 114 = .ok (.getfield 22, 3) := by decide +kernel
theorem dX10_readItems_117 : decode cX10_readItems 117 = .ok (.aload_n 0, 1) := by decide +kernel
theorem dX10_readItems_118 : decode cX10_readItems 118 = .ok (.getfield 22, 3) := by decide +kernel
theorem dX10_readItems_121 : decode cX10_readItems 121 = .ok (.getfield 106, 3) := by decide +kernel
theorem dX10_readItems_124 : decode cX10_readItems 124 = .ok (.putfield 45, 3) := by decide +kernel
theorem dX10_readItems_127 : decode cX10_readItems 127 = .ok (.iconst 0, 1) := by decide +kernel
theorem dX10_readItems_128 : decode cX10_readItems 128 = .ok (.ireturn, 1) := by decide +kernel
theorem dX10_readItems_129 : decode cX10_readItems 129 = .ok (.aload_n 0, 1) := by decide +kernel
theorem dX10_readItems_130 : decode cX10_readItems 130 = .ok (.getfield 12, 3) := by decide +kernel
theorem dX10_readItems_133 : decode cX10_readItems 133 = .ok (.getfield 84, 3) := by decide +kernel
theorem dX10_readItems_136 : decode cX10_readItems 136 = .ok (.iload_n 2, 1) := by decide +kernel
theorem dX10_readItems_137 : decode cX10_readItems 137 = .ok (.iconst 4, 1) := by decide +kernel
theorem dX10_readItems_138 : decode cX10_readItems 138 = .ok (.imul, 1) := by decide +kernel
theorem dX10_readItems_139 : decode cX10_readItems 139 = .ok (.iload 5, 2) := by decide +kernel
theorem dX10_readItems_141 : decode cX10_readItems 141 = .ok (.iadd, 1) := by decide +kernel
theorem dX10_readItems_142 : decode cX10_readItems 142 = .ok (.iload 6, 2) := by decide +kernel
theorem dX10_readItems_144 : decode cX10_readItems 144 = .ok (.iastore, 1) := by decide +kernel
theorem dX10_readItems_145 : decode cX10_readItems 145 = .ok (.iinc 4 1, 3) := by decide +kernel
theorem dX10_readItems_148 : decode cX10_readItems 148 = .ok (.goto (-143), 3) := by decide +kernel
theorem dX10_readItems_151 : decode cX10_readItems 151 = .ok (.iconst 1, 1) := by decide +kernel
theorem dX10_readItems_152 : decode cX10_readItems 152 = .ok (.ireturn, 1) := by decide +kernel
set_option maxRecDepth 100000 in
theorem gC_X10_22_4 {Q : Option AV → Mm → Prop} {K : KT} {cc : ByteArray} {nL d : Nat} {ret : Option FieldType} {pc n : Nat} {ls : List (Option AV)} {st : List AV} {μ : Mm} (hO : KOk PC Q K cc RX10 nL d ret) (hd : decode cc pc = .ok (.getfield 22, 3)) (hn : pc + 3 = n) (kk : AW K n ls (vR 1 :: st) μ) : AW K pc ls (vR 4 :: st) μ := aw_get (f := 0) hO hd hn okX10 (by decide) (lw_t1 97 rfl rfl) (by decide) rfl rfl rfl kk
set_option maxRecDepth 100000 in
theorem gC_X10_106_1 {Q : Option AV → Mm → Prop} {K : KT} {cc : ByteArray} {nL d : Nat} {ret : Option FieldType} {pc n : Nat} {ls : List (Option AV)} {st : List AV} {μ : Mm} (hO : KOk PC Q K cc RX10 nL d ret) (hd : decode cc pc = .ok (.getfield 106, 3)) (hn : pc + 3 = n) (kk : AW K n ls (vI (μ.1 1 4) :: st) μ) : AW K pc ls (vR 1 :: st) μ := aw_getN (f := 4) hO hd hn okX8 (by decide) (lw_t1n 49 rfl rfl) (by decide) rfl rfl rfl kk
set_option maxRecDepth 100000 in
theorem pC_X10_45_1 {Q : Option AV → Mm → Prop} {K : KT} {cc : ByteArray} {nL d : Nat} {ret : Option FieldType} {pc n : Nat} {ls : List (Option AV)} {st : List AV} {μ : Mm} {a : Int} (hO : KOk PC Q K cc RX10 nL d ret) (hd : decode cc pc = .ok (.putfield 45, 3)) (hn : pc + 3 = n) (kk : AW K n ls st (mst μ 1 3 a)) : AW K pc ls (vI a :: vR 1 :: st) μ := aw_putN (f := 3) hO hd hn okX8 tyX8_ok nmX8 (by decide) (lw_t1n 47 rfl rfl) rfl rfl rfl (by decide) rfl rfl kk
set_option maxHeartbeats 4000000 in
set_option maxRecDepth 100000 in
theorem cT_readItems {μ : Mm} {g : Nat → Int} {N p : Nat} (h : TO g N μ) (ha : μ.1 1 3 = (p : Int)) (haN : p ≤ N) (hsp : sk g p = p) {k r : Nat} {r0 : Nat → Int} (hk : k < 3) (hr : r < 12) (hr0 : ∀ x, x < nK k → μ.1 6 (4 * r + x) = r0 x) : CtE PC 2 yX10_readItems cX10_readItems 8 (some .boolean) [vR 4, vI ((k : Nat) : Int), vI ((r : Nat) : Int)] μ (fun b m => Fr (iS r) μ m ∧ (∀ q, pIt g (kap k) 4 p r0 0 = (q, none) → b = 0 ∧ m.1 1 3 = (q : Int)) ∧ (∀ q r', pIt g (kap k) 4 p r0 0 = (q, some r') → b = 1 ∧ m.1 1 3 = (q : Int) ∧ ∀ x, x < nK k → m.1 6 (4 * r + x) = r' x)) := by
  refine ct_intro [some (vR 4), some (vI ((k : Nat) : Int)), some (vI ((r : Nat) : Int)), none, none, none, none, none] RX10 (by decide) rfl XCo rfl (Nat.le_of_ble_eq_true rfl) (fun K hO => ?_)
  have hG := h.G
  have lp : ∀ (f : Nat) (i p2 : Nat) (s : Int) (r2 : Nat → Int) (m : Mm), (i + f = 4) → (p2 ≤ N) → (sk g p2 = p2) → (pIt g (kap k) f p2 r2 s = pIt g (kap k) 4 p r0 0) → (Fr (iS r) μ m ∧ m.1 1 3 = (p2 : Int) ∧ ∀ x, x < nK k → m.1 6 (4 * r + x) = r2 x) → AW K 5 [some (vR 4), some (vI ((k : Nat) : Int)), some (vI ((r : Nat) : Int)), some (vI s), some (vI ((i : Nat) : Int)), none, none, none] [] m := by
    intro f
    induction f with
    | zero =>
      intro i p2 s r2 m hi hp2 hsk hD hm
      refine aw_iload hO dX10_readItems_5 rfl rfl ?_
      refine aw_iconst hO dX10_readItems_7 rfl ?_
      refine aw_icmp_ge (tgt := 151) hO dX10_readItems_8 rfl rfl (inRn (by omega)) (inRlit _) (fun c8 => ?_) (fun c8 => ?_)
      · refine aw_iconst hO dX10_readItems_151 rfl ?_
        refine aw_zret hO dX10_readItems_152 (Or.inr rfl) ?_
        exact ⟨_, rfl, hm.1, fun q e => (by rw [← hD, pIt] at e; simp at e), fun q r2 e => (by rw [← hD, pIt] at e; simp only [Prod.mk.injEq, Option.some.injEq] at e; obtain ⟨rfl, rfl⟩ := e; exact ⟨rfl, hm.2.1, hm.2.2⟩)⟩
      · exact absurd c8 (by omega)
    | succ f ih =>
      intro i p2 s r2 m hi hp2 hsk hD hm
      have hTm := h.is hm.1
      have hgr := hG.rng p2
      have hit := itO_rng (kap k) (g p2)
      refine aw_iload hO dX10_readItems_5 rfl rfl ?_
      refine aw_iconst hO dX10_readItems_7 rfl ?_
      refine aw_icmp_ge (tgt := 151) hO dX10_readItems_8 rfl rfl (inRn (by omega)) (inRlit _) (fun c8 => ?_) (fun c8 => ?_)
      · exact absurd c8 (by omega)
      · refine aw_iload_n hO dX10_readItems_11 rfl rfl ?_
        refine aw_aload_n hO dX10_readItems_12 rfl rfl ?_
        refine gC_X10_22_4 hO dX10_readItems_13 rfl ?_
        refine aw_callVI (as := []) (st := [vI ((k : Nat) : Int)]) hO dX10_readItems_16 rfl (lw_t2 140 rfl rfl) kX8_sign (T := TX8) rfl (by decide) rfl (cT_sign hTm.1 hm.2.1 hp2) (by decide) rfl rfl rfl (Nat.le_of_ble_eq_true rfl) ?_
        refine aw_callSI (as := [vI ((k : Nat) : Int), vI (g p2)]) (st := []) hO dX10_readItems_19 rfl (lw_t2 234 rfl rfl) kX10_itemOf (cT_itemOf m (k := k) (c := g p2) hk hgr.1 hgr.2) (by decide) rfl rfl rfl (Nat.le_of_ble_eq_true rfl) ?_
        refine aw_istore (ls' := [some (vR 4), some (vI ((k : Nat) : Int)), some (vI ((r : Nat) : Int)), some (vI s), some (vI ((i : Nat) : Int)), some (vI (itO (kap k) (g p2))), none, none]) hO dX10_readItems_22 rfl (Nat.le_of_ble_eq_true rfl) rfl rfl ?_
        refine aw_iload hO dX10_readItems_24 rfl rfl ?_
        refine aw_iconst hO dX10_readItems_26 rfl ?_
        refine aw_icmp_eq (tgt := 40) hO dX10_readItems_27 rfl rfl ⟨by omega, by omega⟩ (inRlit _) (fun c27 => ?_) (fun c27 => ?_)
        · refine aw_iconst hO dX10_readItems_40 rfl ?_
          refine aw_zret hO dX10_readItems_41 (Or.inr rfl) ?_
          exact ⟨_, rfl, hm.1, fun q e => (by rw [← hD, pIt_s (Or.inl c27)] at e; simp at e), fun q r2 e => (by rw [← hD, pIt_s (Or.inl c27)] at e; simp only [Prod.mk.injEq, Option.some.injEq] at e; obtain ⟨rfl, rfl⟩ := e; exact ⟨rfl, hm.2.1, hm.2.2⟩)⟩
        · refine aw_iload_n hO dX10_readItems_30 rfl rfl ?_
          refine aw_iload hO dX10_readItems_31 rfl rfl ?_
          refine aw_ishr hO dX10_readItems_33 rfl ?_
          refine aw_iconst hO dX10_readItems_34 rfl ?_
          refine aw_iand hO dX10_readItems_35 rfl ?_
          refine aw_iconst hO dX10_readItems_36 rfl ?_
          refine aw_icmp_ne (tgt := 42) hO dX10_readItems_37 rfl rfl (bAnd_R _ _) (inRlit _) (fun c37 => ?_) (fun c37 => ?_)
          · have hns : ¬ ((itO (kap k) (g p2)) = -1 ∨ hasB s (itO (kap k) (g p2)).toNat = true) := fun q => q.elim c27 (fun q => c37 (by have := of_decide_eq_true q; rw [Int.toNat_of_nonneg (by omega)] at this; exact this))
            obtain ⟨x, hx⟩ : ∃ x : Nat, (itO (kap k) (g p2)) = (x : Int) := ⟨(itO (kap k) (g p2)).toNat, by omega⟩
            have hxn : x < nK k := by have := itO_nK hk c27; rw [hx, Int.toNat_natCast] at this; exact this
            have hx4 : x < 4 := by have : nK k ≤ 4 := by unfold nK; split <;> omega
                                   omega
            have hst := lohi_all ⟨k, hk⟩ ⟨x, hx4⟩ hxn
            dsimp only at hst
            refine aw_lsq (ls' := [some (vR 4), some (vI ((k : Nat) : Int)), some (vI ((r : Nat) : Int)), some (vI s), some (vI ((i : Nat) : Int)), some (vI ((x : Nat) : Int)), none, none]) (by rw [hx]) ?_
            have hlt := hG.lt (p := p2) (itO_e c27)
            have hPN := sk_le hG (p := p2 + 1) (by omega)
            have hP1 := sk_ge g (p2 + 1)
            have hgp := hG.2.1 p2 hlt
            have hlo := loO_rng (kap k) (x : Int)
            have hhi := hiO_rng (kap k) (x : Int)
            refine aw_iload_n hO dX10_readItems_42 rfl rfl ?_
            refine aw_iconst hO dX10_readItems_43 rfl ?_
            refine aw_iload hO dX10_readItems_44 rfl rfl ?_
            refine aw_ishl hO dX10_readItems_46 rfl ?_
            refine aw_ior hO dX10_readItems_47 rfl ?_
            refine aw_istore_n (ls' := [some (vR 4), some (vI ((k : Nat) : Int)), some (vI ((r : Nat) : Int)), some (vI (bOr s (bShl 1 ((x : Nat) : Int)))), some (vI ((i : Nat) : Int)), some (vI ((x : Nat) : Int)), none, none]) hO dX10_readItems_48 rfl (Nat.le_of_ble_eq_true rfl) rfl rfl ?_
            refine aw_aload_n hO dX10_readItems_49 rfl rfl ?_
            refine gC_X10_22_4 hO dX10_readItems_50 rfl ?_
            refine aw_aload_n hO dX10_readItems_53 rfl rfl ?_
            refine gC_X10_22_4 hO dX10_readItems_54 rfl ?_
            refine aw_callVI (as := []) (st := [vR 1]) hO dX10_readItems_57 rfl (lw_t2 140 rfl rfl) kX8_sign (T := TX8) rfl (by decide) rfl (cT_sign hTm.1 hm.2.1 hp2) (by decide) rfl rfl rfl (Nat.le_of_ble_eq_true rfl) ?_
            refine aw_i2c hO dX10_readItems_60 rfl (by omega) (by omega) ?_
            refine aw_callVE (as := [vI (g p2)]) (st := []) hO dX10_readItems_61 rfl (lw_t2 224 rfl rfl) kX8_takes (T := TX8) rfl (by decide) rfl (cT_takes hTm hm.2.1 hp2 (c := g p2) (by omega) (by omega)) (by decide) rfl rfl rfl (Nat.le_of_ble_eq_true rfl) (fun v1 μ2 hq3 => ?_)
            obtain ⟨e_v1, e_μ2⟩ := hq3
            rw [if_pos rfl] at e_μ2
            have hT1 : TO g N μ2 := by rw [e_μ2]; exact hTm.st (by decide) _
            have hp1 : μ2.1 1 3 = ((sk g (p2 + 1) : Nat) : Int) := by rw [e_μ2, mst_eq]
            have hF1 : Fr (iS r) μ μ2 := by rw [e_μ2]; exact hm.1.st (Or.inl ⟨rfl, Or.inl rfl⟩) _
            have h61 : μ2.1 6 = m.1 6 := by rw [e_μ2]; exact funext fun _ => mst_nk (by decide)
            refine aw_pop hO dX10_readItems_64 rfl rfl ?_
            refine aw_aload_n hO dX10_readItems_65 rfl rfl ?_
            refine gC_X10_22_4 hO dX10_readItems_66 rfl ?_
            refine aw_iconst hO dX10_readItems_69 rfl ?_
            refine aw_callVE (as := [vI ((2 : Nat) : Int)]) (st := []) hO dX10_readItems_70 rfl (lw_t2 239 rfl rfl) kX8_number (T := TX8) rfl (by decide) rfl (cT_number hT1 hp1 hPN (k := 2) (by decide)) (by decide) rfl rfl rfl (Nat.le_of_ble_eq_true rfl) (fun v4 μ5 hq6 => ?_)
            obtain ⟨hF2, hN1, hN2⟩ := hq6
            have hT2 := hT1.ts hF2
            have hF3 : Fr (iS r) μ μ5 := hF1.tr (hF2.mono (fun _ _ e => Or.inl e))
            have h62 : μ5.1 6 = m.1 6 := (hF2.fn (fun i => by unfold tS; omega)).trans h61
            obtain ⟨dq, dv, hdg⟩ : ∃ dq dv, pDg g 2 (sk g (p2 + 1)) 0 = (dq, dv) := ⟨_, _, rfl⟩
            have hdG := pDg_G hG 2 (sk g (p2 + 1)) 0 hPN (by omega)
            have hvr : -1 ≤ v4 ∧ v4 ≤ 99 := by
              cases dv with
              | none => have := (hN1 dq hdg).1; omega
              | some y => have h1 := hN2 dq y hdg; have h2 := hdG.2 dq y hdg; by_cases e : dq = sk g (p2 + 1); have := (h1.1 e).1; omega; have := (h1.2 e).1; omega
            refine aw_istore (ls' := [some (vR 4), some (vI ((k : Nat) : Int)), some (vI ((r : Nat) : Int)), some (vI (bOr s (bShl 1 ((x : Nat) : Int)))), some (vI ((i : Nat) : Int)), some (vI ((x : Nat) : Int)), some (vI v4), none]) hO dX10_readItems_73 rfl (Nat.le_of_ble_eq_true rfl) rfl rfl ?_
            refine aw_iload hO dX10_readItems_75 rfl rfl ?_
            refine aw_iconst hO dX10_readItems_77 rfl ?_
            refine aw_icmp_ne (tgt := 83) hO dX10_readItems_78 rfl rfl ⟨by omega, by omega⟩ (inRlit _) (fun c78 => ?_) (fun c78 => ?_)
            · obtain ⟨hdd, hne, hdq, hpl, hld⟩ : isD (g (sk g (p2 + 1))) ∧ dq ≠ sk g (p2 + 1) ∧ pDg g 2 (sk g (p2 + 1)) 0 = (dq, some v4) ∧ μ5.1 1 3 = ((sk g dq : Nat) : Int) ∧ μ5.1 1 4 = (dq : Int) - 1 := by
                cases dv with
                | none => exact absurd (hN1 dq hdg).1 c78
                | some y =>
                  have h1 := hN2 dq y hdg
                  by_cases e : dq = sk g (p2 + 1)
                  · exact absurd (h1.1 e).1 c78
                  · obtain ⟨k1, k2, k3⟩ := h1.2 e
                    refine ⟨?_, e, by rw [hdg, k1], k2, k3⟩
                    have := (hdG.2 dq y hdg).2.2.2.2.2
                    exact this.resolve_left e
              have hdG2 := hdG.2 dq _ hdq
              have hdgt : sk g (p2 + 1) < dq := by omega
              refine aw_iload_n hO dX10_readItems_83 rfl rfl ?_
              refine aw_iconst hO dX10_readItems_84 rfl ?_
              refine aw_imul hO dX10_readItems_85 rfl ?_
              refine aw_iload hO dX10_readItems_86 rfl rfl ?_
              refine aw_iadd hO dX10_readItems_88 rfl ?_
              refine aw_istore (ls' := [some (vR 4), some (vI ((k : Nat) : Int)), some (vI ((r : Nat) : Int)), some (vI (bOr s (bShl 1 ((x : Nat) : Int)))), some (vI ((i : Nat) : Int)), some (vI ((x : Nat) : Int)), some (vI v4), some (vI ((((k : Nat) : Int) * 4) + ((x : Nat) : Int)))]) hO dX10_readItems_89 rfl (Nat.le_of_ble_eq_true rfl) rfl rfl ?_
              refine aw_iload hO dX10_readItems_91 rfl rfl ?_
              refine aw_gst (i := 3) hO dX10_readItems_93 rfl (by decide) (lw_t3 3 rfl rfl) ?_
              refine aw_iload hO dX10_readItems_96 rfl rfl ?_
              refine aw_tld (i := 3) (j := (4 * k + x)) hO dX10_readItems_98 rfl (by decide) (by omega) (by show _ < 12; omega) (by decide) ?_
              refine aw_cg hst.1 ?_
              refine aw_icmp_lt (tgt := 113) hO dX10_readItems_99 rfl rfl ⟨by omega, by omega⟩ ⟨by omega, by omega⟩ (fun c99 => ?_) (fun c99 => ?_)
              · refine aw_aload_n hO dX10_readItems_113 rfl rfl ?_
                refine gC_X10_22_4 hO dX10_readItems_114 rfl ?_
                refine aw_aload_n hO dX10_readItems_117 rfl rfl ?_
                refine gC_X10_22_4 hO dX10_readItems_118 rfl ?_
                refine gC_X10_106_1 hO dX10_readItems_121 rfl ?_
                refine pC_X10_45_1 hO dX10_readItems_124 rfl ?_
                refine aw_mm (fun μ7 e_μ7 => ?_)
                refine aw_iconst hO dX10_readItems_127 rfl ?_
                refine aw_zret hO dX10_readItems_128 (Or.inl rfl) ?_
                have hnb : pNb g (loO (kap k) (itO (kap k) (g p2))) (hiO (kap k) (itO (kap k) (g p2))) (sk g (p2 + 1)) = (dq - 1, none) := by unfold pNb; rw [if_pos hdd, hdq, hx]; dsimp only; rw [if_neg (by omega)]
                exact ⟨_, rfl, by rw [e_μ7]; exact hF3.st (Or.inl ⟨rfl, Or.inl rfl⟩) _, fun q e => (by rw [← hD, pIt_b hns hnb] at e; simp only [Prod.mk.injEq, and_true] at e; exact ⟨rfl, by rw [e_μ7, mst_eq, hld]; omega⟩), fun q r2 e => (by rw [← hD, pIt_b hns hnb] at e; simp at e)⟩
              · refine aw_iload hO dX10_readItems_102 rfl rfl ?_
                refine aw_gst (i := 4) hO dX10_readItems_104 rfl (by decide) (lw_t3 5 rfl rfl) ?_
                refine aw_iload hO dX10_readItems_107 rfl rfl ?_
                refine aw_tld (i := 4) (j := (4 * k + x)) hO dX10_readItems_109 rfl (by decide) (by omega) (by show _ < 12; omega) (by decide) ?_
                refine aw_cg hst.2.1 ?_
                refine aw_icmp_le (tgt := 129) hO dX10_readItems_110 rfl rfl ⟨by omega, by omega⟩ ⟨by omega, by omega⟩ (fun c110 => ?_) (fun c110 => ?_)
                · refine aw_aload_n hO dX10_readItems_129 rfl rfl ?_
                  refine gC_X10_12_4 hO dX10_readItems_130 rfl ?_
                  refine gC_X10_84_5 hO dX10_readItems_133 rfl ?_
                  refine aw_iload_n hO dX10_readItems_136 rfl rfl ?_
                  refine aw_iconst hO dX10_readItems_137 rfl ?_
                  refine aw_imul hO dX10_readItems_138 rfl ?_
                  refine aw_iload hO dX10_readItems_139 rfl rfl ?_
                  refine aw_iadd hO dX10_readItems_141 rfl ?_
                  refine aw_iload hO dX10_readItems_142 rfl rfl ?_
                  refine aw_iastn (N := 48) (i := (4 * r + x)) hO dX10_readItems_144 rfl (by decide) rfl (by decide) (by omega) (by omega) ?_
                  refine aw_mm (fun μ8 e_μ8 => ?_)
                  refine aw_iinc (ls' := [some (vR 4), some (vI ((k : Nat) : Int)), some (vI ((r : Nat) : Int)), some (vI (bOr s (bShl 1 ((x : Nat) : Int)))), some (vI (((i : Nat) : Int) + 1)), some (vI ((x : Nat) : Int)), some (vI v4), some (vI ((((k : Nat) : Int) * 4) + ((x : Nat) : Int)))]) hO dX10_readItems_145 rfl rfl rfl rfl ?_
                  refine aw_lsq (ls' := [some (vR 4), some (vI ((k : Nat) : Int)), some (vI ((r : Nat) : Int)), some (vI (bOr s (bShl 1 ((x : Nat) : Int)))), some (vI (((i + 1) : Nat) : Int)), some (vI ((x : Nat) : Int)), some (vI v4), some (vI ((((k : Nat) : Int) * 4) + ((x : Nat) : Int)))]) rfl ?_
                  refine aw_goto (tgt := 5) hO dX10_readItems_148 rfl ?_
                  have hnb : pNb g (loO (kap k) (itO (kap k) (g p2))) (hiO (kap k) (itO (kap k) (g p2))) (sk g (p2 + 1)) = (sk g dq, some v4) := by unfold pNb; rw [if_pos hdd, hdq, hx]; dsimp only; rw [if_pos (by omega)]
                  refine aw_fg (ls' := [some (vR 4), some (vI ((k : Nat) : Int)), some (vI ((r : Nat) : Int)), some (vI (bOr s (bShl 1 ((x : Nat) : Int)))), some (vI (((i + 1) : Nat) : Int)), none, none, none]) ⟨rfl, rfl, rfl, rfl, rfl, trivial⟩ ?_
                  refine ih (i + 1) (sk g dq) _ (fu r2 x v4) μ8 (by omega) (sk_le hG (by omega)) (sk_sk hG _) (by rw [← hD, pIt_g hns hnb, hx, Int.toNat_natCast]) ⟨by rw [e_μ8]; exact hF3.st (Or.inr ⟨rfl, by omega, by omega⟩) _, by rw [e_μ8, mst_nk (by decide)]; exact hpl, fun y hy => ?_⟩
                  rw [e_μ8]
                  by_cases e : y = x
                  · rw [e, mst_eq, fu_eq]
                  · rw [mst_ni (by omega), fu_ne e, h62]; exact hm.2.2 y hy
                · refine aw_aload_n hO dX10_readItems_113 rfl rfl ?_
                  refine gC_X10_22_4 hO dX10_readItems_114 rfl ?_
                  refine aw_aload_n hO dX10_readItems_117 rfl rfl ?_
                  refine gC_X10_22_4 hO dX10_readItems_118 rfl ?_
                  refine gC_X10_106_1 hO dX10_readItems_121 rfl ?_
                  refine pC_X10_45_1 hO dX10_readItems_124 rfl ?_
                  refine aw_mm (fun μ9 e_μ9 => ?_)
                  refine aw_iconst hO dX10_readItems_127 rfl ?_
                  refine aw_zret hO dX10_readItems_128 (Or.inl rfl) ?_
                  have hnb : pNb g (loO (kap k) (itO (kap k) (g p2))) (hiO (kap k) (itO (kap k) (g p2))) (sk g (p2 + 1)) = (dq - 1, none) := by unfold pNb; rw [if_pos hdd, hdq, hx]; dsimp only; rw [if_neg (by omega)]
                  exact ⟨_, rfl, by rw [e_μ9]; exact hF3.st (Or.inl ⟨rfl, Or.inl rfl⟩) _, fun q e => (by rw [← hD, pIt_b hns hnb] at e; simp only [Prod.mk.injEq, and_true] at e; exact ⟨rfl, by rw [e_μ9, mst_eq, hld]; omega⟩), fun q r2 e => (by rw [← hD, pIt_b hns hnb] at e; simp at e)⟩
            · refine aw_iconst hO dX10_readItems_81 rfl ?_
              refine aw_zret hO dX10_readItems_82 (Or.inl rfl) ?_
              have hnb : ∃ q, pNb g (loO (kap k) (itO (kap k) (g p2))) (hiO (kap k) (itO (kap k) (g p2))) (sk g (p2 + 1)) = (q, none) ∧ μ5.1 1 3 = (q : Int) := by
                unfold pNb
                rw [hdg]
                cases dv with
                | none => have h1 := hN1 dq hdg; by_cases hd : isD (g (sk g (p2 + 1))); exact ⟨dq, by rw [if_pos hd], h1.2⟩; rw [pDg_s hd] at hdg; simp at hdg
                | some y =>
                  have h1 := hN2 dq y hdg
                  by_cases e : dq = sk g (p2 + 1)
                  · have hd : ¬ isD (g (sk g (p2 + 1))) := fun hd => by rw [pDg_t hd] at hdg; have := (pDg_G hG 1 (sk g (p2 + 1) + 1) _ (by have := hG.lt (p := sk g (p2 + 1)) (by unfold isD at hd; omega); omega) (by unfold isD at hd; omega)).2 dq y hdg; omega
                    exact ⟨sk g (p2 + 1), by rw [if_neg hd], (h1.1 e).2⟩
                  · have := (h1.2 e).1; have := (hdG.2 dq y hdg); omega
              obtain ⟨q1, hq1, hq2⟩ := hnb
              exact ⟨_, rfl, hF3, fun q e => (by rw [← hD, pIt_b hns hq1] at e; simp only [Prod.mk.injEq, and_true] at e; exact ⟨rfl, by rw [hq2, e]⟩), fun q r2 e => (by rw [← hD, pIt_b hns hq1] at e; simp at e)⟩
          · have hsb : hasB s (itO (kap k) (g p2)).toNat = true := decide_eq_true (by rw [Int.toNat_of_nonneg (by omega)]; exact c37)
            refine aw_iconst hO dX10_readItems_40 rfl ?_
            refine aw_zret hO dX10_readItems_41 (Or.inr rfl) ?_
            exact ⟨_, rfl, hm.1, fun q e => (by rw [← hD, pIt_s (Or.inr hsb)] at e; simp at e), fun q r2 e => (by rw [← hD, pIt_s (Or.inr hsb)] at e; simp only [Prod.mk.injEq, Option.some.injEq] at e; obtain ⟨rfl, rfl⟩ := e; exact ⟨rfl, hm.2.1, hm.2.2⟩)⟩
  refine aw_iconst hO dX10_readItems_0 rfl ?_
  refine aw_istore_n (ls' := [some (vR 4), some (vI ((k : Nat) : Int)), some (vI ((r : Nat) : Int)), some (vI 0), none, none, none, none]) hO dX10_readItems_1 rfl (Nat.le_of_ble_eq_true rfl) rfl rfl ?_
  refine aw_iconst hO dX10_readItems_2 rfl ?_
  refine aw_istore (ls' := [some (vR 4), some (vI ((k : Nat) : Int)), some (vI ((r : Nat) : Int)), some (vI 0), some (vI 0), none, none, none]) hO dX10_readItems_3 rfl (Nat.le_of_ble_eq_true rfl) rfl rfl ?_
  refine aw_lsq (ls' := [some (vR 4), some (vI ((k : Nat) : Int)), some (vI ((r : Nat) : Int)), some (vI 0), some (vI ((0 : Nat) : Int)), none, none, none]) rfl ?_
  exact lp 4 0 p 0 r0 μ rfl haN hsp rfl ⟨Fr.rf, ha, hr0⟩
