/-! ## the constructors of the class's parts -/
section
variable {K : NT} {nL pc : Nat} {lv : List (Nat × Value)} {st : List Value} {tys : TyL} {ce sl : Nat}
theorem va_Ksw {D : va_G} {t1 t2 : TyL} {U : State} (h : va_K D vwCl (t1 ++ t2) U) : va_K D vwCl (t2 ++ t1) U := by
  refine va_K.app ⟨h.1, fun k q hk => h.2 (t1.length + k) q ?_⟩ ⟨h.1, fun k q hk => h.2 k q ?_⟩
  · rw [List.getElem?_append_right (by omega), show t1.length + k - t1.length = k by omega]
    exact hk
  · rw [List.getElem?_append_left (List.getElem?_eq_some_iff.mp hk).1]
    exact hk
theorem va_Psw {D : va_G} {w1 w2 : va_W} {H : Heap} (h : va_P D vwCl (w1 ++ w2) H) : va_P D vwCl (w2 ++ w1) H := by
  refine va_P.app (fun k q hk => h (w1.length + k) q ?_) (fun k q hk => h k q ?_)
  · rw [List.getElem?_append_right (by omega), show w1.length + k - w1.length = k by omega]
    exact hk
  · rw [List.getElem?_append_left (List.getElem?_eq_some_iff.mp hk).1]
    exact hk
theorem va_Dsw {A : Nat → Prop} {w1 w2 : va_W} (h : va_D A (w1 ++ w2)) : va_D A (w2 ++ w1) := by
  have g2 : ∀ (k : Nat) (q : Nat × va_E), w2[k]? = some q → (w1 ++ w2)[w1.length + k]? = some q := fun k q hk => by
    rw [List.getElem?_append_right (by omega), show w1.length + k - w1.length = k by omega]
    exact hk
  have g1 : ∀ (k : Nat) (q : Nat × va_E), w1[k]? = some q → (w1 ++ w2)[k]? = some q := fun k q hk => by
    rw [List.getElem?_append_left (List.getElem?_eq_some_iff.mp hk).1]
    exact hk
  refine (h.by (fun k => w1.length + k) g2 (fun i j _ _ e => by omega)).app (h.by (fun k => k) g1 (fun i j _ _ e => e)) (fun i j p q hp hq e => ?_)
  have e2 := h.1 _ _ _ _ (g2 i p hp) (g1 j q hq) e
  have := (List.getElem?_eq_some_iff.mp hq).1
  omega
theorem bw_sw {w1 w2 : va_W} (kk : BW K pc lv nL st (w2 ++ w1) tys ce sl) : BW K pc lv nL st (w1 ++ w2) tys ce sl := bw_sub (fun _ h => va_Psw h) (fun h => va_Dsw h) (fun h => h) kk
/-- the object at the head, then what is new -/
theorem bw_hd {x : Nat × va_E} {w v : va_W} (kk : BW K pc lv nL st (x :: (v ++ w)) tys ce sl) : BW K pc lv nL st ((x :: w) ++ v) tys ce sl := by
  refine bw_sw (bw_sub (ws' := (x :: w) ++ v) (tys' := tys) (fun _ h => va_Psw h) (fun h => va_Dsw h) (fun h => h) ?_)
  refine bw_sub (fun H h => ?_) (fun h => ?_) (fun h => h) kk
  · have h1 : va_P K.D vwCl ([x] ++ (w ++ v)) H := h
    have h2 := va_Psw h1
    have h3 : va_P K.D vwCl (w ++ (v ++ [x])) H := by rw [← List.append_assoc]; exact h2
    have h4 := va_Psw h3
    have h5 : va_P K.D vwCl (v ++ ([x] ++ w)) H := by rw [← List.append_assoc]; exact h4
    have h6 : va_P K.D vwCl ((v ++ [x]) ++ w) H := by rw [List.append_assoc]; exact h5
    have h7 := va_Psw h6
    have h8 : va_P K.D vwCl ((w ++ v) ++ [x]) H := by rw [List.append_assoc]; exact h7
    have h9 : va_P K.D vwCl (w ++ v) H := fun k q hk => h8 k q (by rw [List.getElem?_append_left (List.getElem?_eq_some_iff.mp hk).1]; exact hk)
    have h10 : va_P K.D vwCl [x] H := fun k q hk => h8 ((w ++ v).length + k) q (by rw [List.getElem?_append_right (by omega), show (w ++ v).length + k - (w ++ v).length = k by omega]; exact hk)
    exact h10.app (va_Psw h9)
  · have h1 : va_D K.A ([x] ++ (w ++ v)) := h
    have h2 : va_D K.A ((w ++ v) ++ [x]) := va_Dsw h1
    have g1 : ∀ (k : Nat) (q : Nat × va_E), (w ++ v)[k]? = some q → ((w ++ v) ++ [x])[k]? = some q := fun k q hk => by
      rw [List.getElem?_append_left (List.getElem?_eq_some_iff.mp hk).1]
      exact hk
    have h3 : va_D K.A (v ++ w) := va_Dsw (h2.by (fun k => k) g1 (fun i j _ _ e => e))
    have hx : ([x] ++ (w ++ v))[0]? = some x := rfl
    have g4 : ∀ (k : Nat) (q : Nat × va_E), (v ++ w)[k]? = some q → ∃ j, ([x] ++ (w ++ v))[j + 1]? = some q := fun k q hk => by
      have hm : q ∈ w ++ v := by
        have := List.mem_of_getElem? hk
        rcases List.mem_append.mp this with h | h
        · exact List.mem_append_right _ h
        · exact List.mem_append_left _ h
      obtain ⟨j, hj⟩ := List.mem_iff_getElem?.mp hm
      exact ⟨j, hj⟩
    have h10 : va_D K.A ([x] ++ (v ++ w)) := (va_D1 (e := x.2) (h1.2 0 x hx)).app h3 (fun i j p q hp hq e => by
      have hz : i < 1 := (List.getElem?_eq_some_iff.mp hp).1
      rw [show i = 0 by omega] at hp
      cases hp
      obtain ⟨j', hj'⟩ := g4 j q hq
      have := h1.1 0 (j' + 1) x q hx hj' e
      omega)
    exact h10
theorem bw_n1 {x y : Nat × va_E} {w : va_W} (kk : BW K pc lv nL st (x :: y :: w) tys ce sl) : BW K pc lv nL st ((x :: w) ++ [y]) tys ce sl := bw_hd kk
theorem bw_c1 {x y : Nat × va_E} {w : va_W} {t : ClassId × FieldType} (kk : BW K pc lv nL st (x :: y :: w) (t :: tys) ce sl) : BW K pc lv nL st ((x :: w) ++ [y]) (tys ++ [t]) ce sl := bw_hd (bw_sub (fun _ h => h) (fun h => h) (fun h => va_Ksw h) kk)
theorem bw_cv {x : Nat × va_E} {w v : va_W} {t : TyL} (kk : BW K pc lv nL st (x :: (v ++ w)) (t ++ tys) ce sl) : BW K pc lv nL st ((x :: w) ++ v) (tys ++ t) ce sl := bw_hd (bw_sub (fun _ h => h) (fun h => h) (fun h => va_Ksw h) kk)
/-- what was made last, at the end again: it is a constructor's object -/
theorem bw_a1 {x y : Nat × va_E} {w : va_W} (kk : BW K pc lv nL st ((x :: w) ++ [y]) tys ce sl) : BW K pc lv nL st (x :: y :: w) tys ce sl := by
  refine bw_sub (ws' := (y :: w) ++ [x]) (tys' := tys) (fun _ h => va_Psw (w1 := [x]) (w2 := y :: w) h) (fun h => va_Dsw (w1 := [x]) (w2 := y :: w) h) (fun h => h) ?_
  refine bw_hd ?_
  refine bw_sub (ws' := (x :: w) ++ [y]) (tys' := tys) (fun _ h => va_Psw (w1 := [y]) (w2 := x :: w) h) (fun h => va_Dsw (w1 := [y]) (w2 := x :: w) h) (fun h => h) kk
theorem bw_cs {x y : Nat × va_E} {w : va_W} {k : Nat} (kk : BW K pc lv nL st (x :: w.set k y) tys ce sl) : BW K pc lv nL st ((x :: w).set (k + 1) y) tys ce sl := kk
end
set_option maxRecDepth 100000 in
theorem objW : Cond.instanceMethod objectInit ∈ lw_g ∧ Cond.code objectInit ⟨#[0xb1]⟩ 1 none ∈ lw_g := ⟨(lw_t1 33 rfl rfl), (lw_t1 34 rfl rfl)⟩
theorem dX7_init_0 : decode cX7_init 0 = .ok (.aload_n 0, 1) := by decide +kernel
theorem dX7_init_1 : decode cX7_init 1 = .ok (.invokespecial 5, 3) := by decide +kernel
theorem dX7_init_4 : decode cX7_init 4 = .ok (.aload_n 0, 1) := by decide +kernel
theorem dX7_init_5 : decode cX7_init 5 = .ok (.bipush 98, 2) := by decide +kernel
theorem dX7_init_7 : decode cX7_init 7 = .ok (.newarray .int, 2) := by decide +kernel
theorem dX7_init_9 : decode cX7_init 9 = .ok (.putfield 11, 3) := by decide +kernel
theorem dX7_init_12 : decode cX7_init 12 = .ok (.return_, 1) := by decide +kernel
set_option maxRecDepth 100000 in
theorem kX7_init : CkB yX7_init cX7_init 1 none 0 := ⟨(lw_t1 147 rfl rfl), (lw_t1 7 rfl rfl), by decide +kernel, by decide⟩
theorem kiX7_init : Cond.instanceMethod yX7_init ∈ lw_g := (lw_t1 146 rfl rfl)
def RSX7 (_ : Nat → Nat) (h0 : Nat) (w : va_W) (ty : TyL) : Prop := ∃ (q0 : Nat) (c0 : ClassId), w = [(h0, .inr (7, [.ref q0])), (q0, .inl (c0, 98, .inl (fun _ => iI 0)))] ∧ ty = [(c0, .int)]
set_option maxHeartbeats 4000000 in
set_option maxRecDepth 100000 in
theorem cnX7 : CtN 1 1 98 yX7_init cX7_init 1 7 [.null] [] (RSX7) := by
  refine ctn_intro RX7 (fun h0 => [(0, .ref h0)]) (by decide) rfl rfl (fun _ => rfl) (fun _ => Nat.le_of_ble_eq_true rfl) (fun K h0 hO hRS => ?_)
  refine bw_aload 0 hO dX7_init_0 rfl rfl ?_
  refine bw_obj hO dX7_init_1 rfl (lw_t1 148 rfl rfl) objW (by decide) ?_
  refine bw_aload 0 hO dX7_init_4 rfl rfl ?_
  refine bw_bipush hO dX7_init_5 rfl (by decide) ?_
  refine bw_newa (N := 98) hO dX7_init_7 rfl (lw_t1 62 rfl rfl) rfl rfl rfl (by decide) (by decide) (by decide) (by decide) (fun q0 c0 => ?_)
  refine bw_c1 ?_
  refine bw_put (f := 0) (fs' := [.ref q0]) hO dX7_init_9 rfl okX7 tyX7_ok nmX7 (by decide) (lw_t1 149 rfl rfl) rfl rfl rfl (Nat.le_of_ble_eq_true rfl) rfl ?_
  exact bw_ret hO dX7_init_12 (by rw [hRS]; exact ⟨_, _, rfl, rfl⟩) (by decide) (by decide)
theorem dX8_init_0 : decode cX8_init 0 = .ok (.aload_n 0, 1) := by decide +kernel
theorem dX8_init_1 : decode cX8_init 1 = .ok (.invokespecial 3, 3) := by decide +kernel
theorem dX8_init_4 : decode cX8_init 4 = .ok (.aload_n 0, 1) := by decide +kernel
theorem dX8_init_5 : decode cX8_init 5 = .ok (.sipush 240, 3) := by decide +kernel
theorem dX8_init_8 : decode cX8_init 8 = .ok (.newarray .char, 2) := by decide +kernel
theorem dX8_init_10 : decode cX8_init 10 = .ok (.putfield 9, 3) := by decide +kernel
theorem dX8_init_13 : decode cX8_init 13 = .ok (.aload_n 0, 1) := by decide +kernel
theorem dX8_init_14 : decode cX8_init 14 = .ok (.sipush 241, 3) := by decide +kernel
theorem dX8_init_17 : decode cX8_init 17 = .ok (.newarray .int, 2) := by decide +kernel
theorem dX8_init_19 : decode cX8_init 19 = .ok (.putfield 15, 3) := by decide +kernel
theorem dX8_init_22 : decode cX8_init 22 = .ok (.aload_n 0, 1) := by decide +kernel
theorem dX8_init_23 : decode cX8_init 23 = .ok (.iconst 0, 1) := by decide +kernel
theorem dX8_init_24 : decode cX8_init 24 = .ok (.putfield 19, 3) := by decide +kernel
theorem dX8_init_27 : decode cX8_init 27 = .ok (.aload_n 0, 1) := by decide +kernel
theorem dX8_init_28 : decode cX8_init 28 = .ok (.iconst 0, 1) := by decide +kernel
theorem dX8_init_29 : decode cX8_init 29 = .ok (.putfield 23, 3) := by decide +kernel
theorem dX8_init_32 : decode cX8_init 32 = .ok (.aload_n 0, 1) := by decide +kernel
theorem dX8_init_33 : decode cX8_init 33 = .ok (.iconst 0, 1) := by decide +kernel
theorem dX8_init_34 : decode cX8_init 34 = .ok (.putfield 26, 3) := by decide +kernel
theorem dX8_init_37 : decode cX8_init 37 = .ok (.return_, 1) := by decide +kernel
set_option maxRecDepth 100000 in
theorem kX8_init : CkB yX8_init cX8_init 1 none 0 := ⟨(lw_t1 39 rfl rfl), (lw_t1 2 rfl rfl), by decide +kernel, by decide⟩
theorem kiX8_init : Cond.instanceMethod yX8_init ∈ lw_g := (lw_t1 38 rfl rfl)
def RSX8 (_ : Nat → Nat) (h0 : Nat) (w : va_W) (ty : TyL) : Prop := ∃ (q0 : Nat) (q1 : Nat) (c1 : ClassId) (c0 : ClassId), w = [(h0, .inr (8, [.ref q0, .ref q1, .int (iI 0), .int (iI 0), .int (iI 0)])), (q1, .inl (c1, 241, .inl (fun _ => iI 0))), (q0, .inl (c0, 240, .inl (fun _ => iI 0)))] ∧ ty = [(c1, .int), (c0, .char)]
set_option maxHeartbeats 4000000 in
set_option maxRecDepth 100000 in
theorem cnX8 : CtN 1 2 481 yX8_init cX8_init 1 8 [.null, .null, .int 0, .int 0, .int 0] [] (RSX8) := by
  refine ctn_intro RX8 (fun h0 => [(0, .ref h0)]) (by decide) rfl rfl (fun _ => rfl) (fun _ => Nat.le_of_ble_eq_true rfl) (fun K h0 hO hRS => ?_)
  refine bw_aload 0 hO dX8_init_0 rfl rfl ?_
  refine bw_obj hO dX8_init_1 rfl (lw_t1 40 rfl rfl) objW (by decide) ?_
  refine bw_aload 0 hO dX8_init_4 rfl rfl ?_
  refine bw_sipush hO dX8_init_5 rfl (by decide) ?_
  refine bw_newa (N := 240) hO dX8_init_8 rfl (lw_t1 61 rfl rfl) rfl rfl rfl (by decide) (by decide) (by decide) (by decide) (fun q0 c0 => ?_)
  refine bw_c1 ?_
  refine bw_put (f := 0) (fs' := [.ref q0, .null, .int 0, .int 0, .int 0]) hO dX8_init_10 rfl okX8 tyX8_ok nmX8 (by decide) (lw_t1 41 rfl rfl) rfl rfl rfl (Nat.le_of_ble_eq_true rfl) rfl ?_
  refine bw_aload 0 hO dX8_init_13 rfl rfl ?_
  refine bw_sipush hO dX8_init_14 rfl (by decide) ?_
  refine bw_newa (N := 241) hO dX8_init_17 rfl (lw_t1 62 rfl rfl) rfl rfl rfl (by decide) (by decide) (by decide) (by decide) (fun q1 c1 => ?_)
  refine bw_c1 ?_
  refine bw_put (f := 1) (fs' := [.ref q0, .ref q1, .int 0, .int 0, .int 0]) hO dX8_init_19 rfl okX8 tyX8_ok nmX8 (by decide) (lw_t1 42 rfl rfl) rfl rfl rfl (Nat.le_of_ble_eq_true rfl) rfl ?_
  refine bw_aload 0 hO dX8_init_22 rfl rfl ?_
  refine bw_iconst hO dX8_init_23 rfl ?_
  refine bw_put (f := 2) (fs' := [.ref q0, .ref q1, .int (iI 0), .int 0, .int 0]) hO dX8_init_24 rfl okX8 tyX8_ok nmX8 (by decide) (lw_t1 43 rfl rfl) rfl rfl rfl (Nat.le_of_ble_eq_true rfl) rfl ?_
  refine bw_aload 0 hO dX8_init_27 rfl rfl ?_
  refine bw_iconst hO dX8_init_28 rfl ?_
  refine bw_put (f := 3) (fs' := [.ref q0, .ref q1, .int (iI 0), .int (iI 0), .int 0]) hO dX8_init_29 rfl okX8 tyX8_ok nmX8 (by decide) (lw_t1 45 rfl rfl) rfl rfl rfl (Nat.le_of_ble_eq_true rfl) rfl ?_
  refine bw_aload 0 hO dX8_init_32 rfl rfl ?_
  refine bw_iconst hO dX8_init_33 rfl ?_
  refine bw_put (f := 4) (fs' := [.ref q0, .ref q1, .int (iI 0), .int (iI 0), .int (iI 0)]) hO dX8_init_34 rfl okX8 tyX8_ok nmX8 (by decide) (lw_t1 48 rfl rfl) rfl rfl rfl (Nat.le_of_ble_eq_true rfl) rfl ?_
  exact bw_ret hO dX8_init_37 (by rw [hRS]; exact ⟨_, _, _, _, rfl, rfl⟩) (by decide) (by decide)
theorem dX9_init_0 : decode cX9_init 0 = .ok (.aload_n 0, 1) := by decide +kernel
theorem dX9_init_1 : decode cX9_init 1 = .ok (.invokespecial 5, 3) := by decide +kernel
theorem dX9_init_4 : decode cX9_init 4 = .ok (.aload_n 0, 1) := by decide +kernel
theorem dX9_init_5 : decode cX9_init 5 = .ok (.bipush 48, 2) := by decide +kernel
theorem dX9_init_7 : decode cX9_init 7 = .ok (.newarray .int, 2) := by decide +kernel
theorem dX9_init_9 : decode cX9_init 9 = .ok (.putfield 11, 3) := by decide +kernel
theorem dX9_init_12 : decode cX9_init 12 = .ok (.aload_n 0, 1) := by decide +kernel
theorem dX9_init_13 : decode cX9_init 13 = .ok (.iconst 0, 1) := by decide +kernel
theorem dX9_init_14 : decode cX9_init 14 = .ok (.putfield 15, 3) := by decide +kernel
theorem dX9_init_17 : decode cX9_init 17 = .ok (.aload_n 0, 1) := by decide +kernel
theorem dX9_init_18 : decode cX9_init 18 = .ok (.iconst 0, 1) := by decide +kernel
theorem dX9_init_19 : decode cX9_init 19 = .ok (.putfield 19, 3) := by decide +kernel
theorem dX9_init_22 : decode cX9_init 22 = .ok (.return_, 1) := by decide +kernel
set_option maxRecDepth 100000 in
theorem kX9_init : CkB yX9_init cX9_init 1 none 0 := ⟨(lw_t1 73 rfl rfl), (lw_t1 4 rfl rfl), by decide +kernel, by decide⟩
theorem kiX9_init : Cond.instanceMethod yX9_init ∈ lw_g := (lw_t1 72 rfl rfl)
def RSX9 (_ : Nat → Nat) (h0 : Nat) (w : va_W) (ty : TyL) : Prop := ∃ (q0 : Nat) (c0 : ClassId), w = [(h0, .inr (9, [.ref q0, .int (iI 0), .int (iI 0)])), (q0, .inl (c0, 48, .inl (fun _ => iI 0)))] ∧ ty = [(c0, .int)]
set_option maxHeartbeats 4000000 in
set_option maxRecDepth 100000 in
theorem cnX9 : CtN 1 1 48 yX9_init cX9_init 1 9 [.null, .int 0, .int 0] [] (RSX9) := by
  refine ctn_intro RX9 (fun h0 => [(0, .ref h0)]) (by decide) rfl rfl (fun _ => rfl) (fun _ => Nat.le_of_ble_eq_true rfl) (fun K h0 hO hRS => ?_)
  refine bw_aload 0 hO dX9_init_0 rfl rfl ?_
  refine bw_obj hO dX9_init_1 rfl (lw_t1 74 rfl rfl) objW (by decide) ?_
  refine bw_aload 0 hO dX9_init_4 rfl rfl ?_
  refine bw_bipush hO dX9_init_5 rfl (by decide) ?_
  refine bw_newa (N := 48) hO dX9_init_7 rfl (lw_t1 62 rfl rfl) rfl rfl rfl (by decide) (by decide) (by decide) (by decide) (fun q0 c0 => ?_)
  refine bw_c1 ?_
  refine bw_put (f := 0) (fs' := [.ref q0, .int 0, .int 0]) hO dX9_init_9 rfl okX9 tyX9_ok nmX9 (by decide) (lw_t1 75 rfl rfl) rfl rfl rfl (Nat.le_of_ble_eq_true rfl) rfl ?_
  refine bw_aload 0 hO dX9_init_12 rfl rfl ?_
  refine bw_iconst hO dX9_init_13 rfl ?_
  refine bw_put (f := 1) (fs' := [.ref q0, .int (iI 0), .int 0]) hO dX9_init_14 rfl okX9 tyX9_ok nmX9 (by decide) (lw_t1 77 rfl rfl) rfl rfl rfl (Nat.le_of_ble_eq_true rfl) rfl ?_
  refine bw_aload 0 hO dX9_init_17 rfl rfl ?_
  refine bw_iconst hO dX9_init_18 rfl ?_
  refine bw_put (f := 2) (fs' := [.ref q0, .int (iI 0), .int (iI 0)]) hO dX9_init_19 rfl okX9 tyX9_ok nmX9 (by decide) (lw_t1 84 rfl rfl) rfl rfl rfl (Nat.le_of_ble_eq_true rfl) rfl ?_
  exact bw_ret hO dX9_init_22 (by rw [hRS]; exact ⟨_, _, rfl, rfl⟩) (by decide) (by decide)
theorem dX4_init_0 : decode cX4_init 0 = .ok (.aload_n 0, 1) := by decide +kernel
theorem dX4_init_1 : decode cX4_init 1 = .ok (.invokespecial 5, 3) := by decide +kernel
theorem dX4_init_4 : decode cX4_init 4 = .ok (.aload_n 0, 1) := by decide +kernel
theorem dX4_init_5 : decode cX4_init 5 = .ok (.sipush 240, 3) := by decide +kernel
theorem dX4_init_8 : decode cX4_init 8 = .ok (.newarray .int, 2) := by decide +kernel
theorem dX4_init_10 : decode cX4_init 10 = .ok (.putfield 11, 3) := by decide +kernel
theorem dX4_init_13 : decode cX4_init 13 = .ok (.aload_n 0, 1) := by decide +kernel
theorem dX4_init_14 : decode cX4_init 14 = .ok (.bipush 32, 2) := by decide +kernel
theorem dX4_init_16 : decode cX4_init 16 = .ok (.newarray .int, 2) := by decide +kernel
theorem dX4_init_18 : decode cX4_init 18 = .ok (.putfield 15, 3) := by decide +kernel
theorem dX4_init_21 : decode cX4_init 21 = .ok (.aload_n 0, 1) := by decide +kernel
theorem dX4_init_22 : decode cX4_init 22 = .ok (.iconst 0, 1) := by decide +kernel
theorem dX4_init_23 : decode cX4_init 23 = .ok (.putfield 18, 3) := by decide +kernel
theorem dX4_init_26 : decode cX4_init 26 = .ok (.return_, 1) := by decide +kernel
set_option maxRecDepth 100000 in
theorem kX4_init : CkB yX4_init cX4_init 1 none 0 := ⟨(lw_t1 118 rfl rfl), (lw_t1 6 rfl rfl), by decide +kernel, by decide⟩
theorem kiX4_init : Cond.instanceMethod yX4_init ∈ lw_g := (lw_t1 117 rfl rfl)
def RSX4 (_ : Nat → Nat) (h0 : Nat) (w : va_W) (ty : TyL) : Prop := ∃ (q0 : Nat) (q1 : Nat) (c1 : ClassId) (c0 : ClassId), w = [(h0, .inr (4, [.ref q0, .ref q1, .int (iI 0)])), (q1, .inl (c1, 32, .inl (fun _ => iI 0))), (q0, .inl (c0, 240, .inl (fun _ => iI 0)))] ∧ ty = [(c1, .int), (c0, .int)]
set_option maxHeartbeats 4000000 in
set_option maxRecDepth 100000 in
theorem cnX4 : CtN 1 2 272 yX4_init cX4_init 1 4 [.null, .null, .int 0] [] (RSX4) := by
  refine ctn_intro RX4 (fun h0 => [(0, .ref h0)]) (by decide) rfl rfl (fun _ => rfl) (fun _ => Nat.le_of_ble_eq_true rfl) (fun K h0 hO hRS => ?_)
  refine bw_aload 0 hO dX4_init_0 rfl rfl ?_
  refine bw_obj hO dX4_init_1 rfl (lw_t1 119 rfl rfl) objW (by decide) ?_
  refine bw_aload 0 hO dX4_init_4 rfl rfl ?_
  refine bw_sipush hO dX4_init_5 rfl (by decide) ?_
  refine bw_newa (N := 240) hO dX4_init_8 rfl (lw_t1 62 rfl rfl) rfl rfl rfl (by decide) (by decide) (by decide) (by decide) (fun q0 c0 => ?_)
  refine bw_c1 ?_
  refine bw_put (f := 0) (fs' := [.ref q0, .null, .int 0]) hO dX4_init_10 rfl okX4 tyX4_ok nmX4 (by decide) (lw_t1 120 rfl rfl) rfl rfl rfl (Nat.le_of_ble_eq_true rfl) rfl ?_
  refine bw_aload 0 hO dX4_init_13 rfl rfl ?_
  refine bw_bipush hO dX4_init_14 rfl (by decide) ?_
  refine bw_newa (N := 32) hO dX4_init_16 rfl (lw_t1 62 rfl rfl) rfl rfl rfl (by decide) (by decide) (by decide) (by decide) (fun q1 c1 => ?_)
  refine bw_c1 ?_
  refine bw_put (f := 1) (fs' := [.ref q0, .ref q1, .int 0]) hO dX4_init_18 rfl okX4 tyX4_ok nmX4 (by decide) (lw_t1 121 rfl rfl) rfl rfl rfl (Nat.le_of_ble_eq_true rfl) rfl ?_
  refine bw_aload 0 hO dX4_init_21 rfl rfl ?_
  refine bw_iconst hO dX4_init_22 rfl ?_
  refine bw_put (f := 2) (fs' := [.ref q0, .ref q1, .int (iI 0)]) hO dX4_init_23 rfl okX4 tyX4_ok nmX4 (by decide) (lw_t1 122 rfl rfl) rfl rfl rfl (Nat.le_of_ble_eq_true rfl) rfl ?_
  exact bw_ret hO dX4_init_26 (by rw [hRS]; exact ⟨_, _, _, _, rfl, rfl⟩) (by decide) (by decide)
theorem dX10_init_0 : decode cX10_init 0 = .ok (.aload_n 0, 1) := by decide +kernel
theorem dX10_init_1 : decode cX10_init 1 = .ok (.invokespecial 3, 3) := by decide +kernel
theorem dX10_init_4 : decode cX10_init 4 = .ok (.aload_n 0, 1) := by decide +kernel
theorem dX10_init_5 : decode cX10_init 5 = .ok (.new 9, 3) := by decide +kernel
theorem dX10_init_8 : decode cX10_init 8 = .ok (.dup, 1) := by decide +kernel
theorem dX10_init_9 : decode cX10_init 9 = .ok (.invokespecial 11, 3) := by decide +kernel
theorem dX10_init_12 : decode cX10_init 12 = .ok (.putfield 12, 3) := by decide +kernel
theorem dX10_init_15 : decode cX10_init 15 = .ok (.aload_n 0, 1) := by decide +kernel
theorem dX10_init_16 : decode cX10_init 16 = .ok (.iconst 3, 1) := by decide +kernel
theorem dX10_init_17 : decode cX10_init 17 = .ok (.newarray .int, 2) := by decide +kernel
theorem dX10_init_19 : decode cX10_init 19 = .ok (.putfield 18, 3) := by decide +kernel
theorem dX10_init_22 : decode cX10_init 22 = .ok (.aload_n 0, 1) := by decide +kernel
theorem dX10_init_23 : decode cX10_init 23 = .ok (.aload_n 1, 1) := by decide +kernel
theorem dX10_init_24 : decode cX10_init 24 = .ok (.putfield 22, 3) := by decide +kernel
theorem dX10_init_27 : decode cX10_init 27 = .ok (.return_, 1) := by decide +kernel
set_option maxRecDepth 100000 in
theorem kX10_init : CkB yX10_init cX10_init 2 none 1 := ⟨(lw_t1 67 rfl rfl), (lw_t1 3 rfl rfl), by decide +kernel, by decide⟩
theorem kiX10_init : Cond.instanceMethod yX10_init ∈ lw_g := (lw_t1 66 rfl rfl)
def RSX10 (a1 : Nat) (_ : Nat → Nat) (h0 : Nat) (w : va_W) (ty : TyL) : Prop := ∃ (q0 : Nat) (q2 : Nat) (c2 : ClassId) (q0_1 : Nat) (c0_1 : ClassId), w = [(h0, .inr (10, [.ref a1, .ref q0, .ref q2])), (q2, .inl (c2, 3, .inl (fun _ => iI 0))), (q0, .inr (9, [.ref q0_1, .int (iI 0), .int (iI 0)])), (q0_1, .inl (c0_1, 48, .inl (fun _ => iI 0)))] ∧ ty = [(c2, .int), (c0_1, .int)]
set_option maxHeartbeats 4000000 in
set_option maxRecDepth 100000 in
theorem cnX10 (a1 : Nat) : CtN 2 3 54 yX10_init cX10_init 2 10 [.null, .null, .null] [.ref a1] (RSX10 a1) := by
  refine ctn_intro RX10 (fun h0 => [(0, .ref h0), (1, .ref a1)]) (by decide) rfl rfl (fun _ => rfl) (fun _ => Nat.le_of_ble_eq_true rfl) (fun K h0 hO hRS => ?_)
  refine bw_aload 0 hO dX10_init_0 rfl rfl ?_
  refine bw_obj hO dX10_init_1 rfl (lw_t1 68 rfl rfl) objW (by decide) ?_
  refine bw_aload 0 hO dX10_init_4 rfl rfl ?_
  refine bw_new (fs := [.null, .int 0, .int 0]) hO dX10_init_5 rfl okX9 tyX9_ok (lw_t1 69 rfl rfl) (lw_t1 70 rfl rfl) (lw_t1 4 rfl rfl) (by decide) (by decide) (by decide) (fun q0 => ?_)
  refine bw_n1 ?_
  refine bw_dup hO dX10_init_8 rfl ?_
  refine bw_a1 ?_
  refine bw_callN (As := []) hO dX10_init_9 rfl (lw_t1n 71 rfl rfl) kX9_init rfl kiX9_init (cnX9) (by decide) rfl (Nat.le_of_ble_eq_true rfl) (by decide) (by decide) (fun w ty hrs => ?_)
  obtain ⟨q0_1, c0_1, rfl, rfl⟩ := hrs
  refine bw_cv ?_
  refine bw_put (f := 1) (fs' := [.null, .ref q0, .null]) hO dX10_init_12 rfl okX10 tyX10_ok nmX10 (by decide) (lw_t1 98 rfl rfl) rfl rfl rfl (Nat.le_of_ble_eq_true rfl) rfl ?_
  refine bw_aload 0 hO dX10_init_15 rfl rfl ?_
  refine bw_iconst hO dX10_init_16 rfl ?_
  refine bw_newa (N := 3) hO dX10_init_17 rfl (lw_t1 62 rfl rfl) rfl rfl rfl (by decide) (by decide) (by decide) (by decide) (fun q2 c2 => ?_)
  refine bw_c1 ?_
  refine bw_put (f := 2) (fs' := [.null, .ref q0, .ref q2]) hO dX10_init_19 rfl okX10 tyX10_ok nmX10 (by decide) (lw_t1 100 rfl rfl) rfl rfl rfl (Nat.le_of_ble_eq_true rfl) rfl ?_
  refine bw_aload 0 hO dX10_init_22 rfl rfl ?_
  refine bw_aload 1 hO dX10_init_23 rfl rfl ?_
  refine bw_put (f := 0) (fs' := [.ref a1, .ref q0, .ref q2]) hO dX10_init_24 rfl okX10 tyX10_ok nmX10 (by decide) (lw_t1 97 rfl rfl) rfl rfl rfl (Nat.le_of_ble_eq_true rfl) rfl ?_
  exact bw_ret hO dX10_init_27 (by rw [hRS]; exact ⟨_, _, _, _, _, rfl, rfl⟩) (by decide) (by decide)
theorem dX5_init_0 : decode cX5_init 0 = .ok (.aload_n 0, 1) := by decide +kernel
theorem dX5_init_1 : decode cX5_init 1 = .ok (.invokespecial 3, 3) := by decide +kernel
theorem dX5_init_4 : decode cX5_init 4 = .ok (.aload_n 0, 1) := by decide +kernel
theorem dX5_init_5 : decode cX5_init 5 = .ok (.new 9, 3) := by decide +kernel
theorem dX5_init_8 : decode cX5_init 8 = .ok (.dup, 1) := by decide +kernel
theorem dX5_init_9 : decode cX5_init 9 = .ok (.invokespecial 11, 3) := by decide +kernel
theorem dX5_init_12 : decode cX5_init 12 = .ok (.putfield 12, 3) := by decide +kernel
theorem dX5_init_15 : decode cX5_init 15 = .ok (.aload_n 0, 1) := by decide +kernel
theorem dX5_init_16 : decode cX5_init 16 = .ok (.aload_n 1, 1) := by decide +kernel
theorem dX5_init_17 : decode cX5_init 17 = .ok (.putfield 18, 3) := by decide +kernel
theorem dX5_init_20 : decode cX5_init 20 = .ok (.return_, 1) := by decide +kernel
set_option maxRecDepth 100000 in
theorem kX5_init : CkB yX5_init cX5_init 2 none 1 := ⟨(lw_t1 112 rfl rfl), (lw_t1 5 rfl rfl), by decide +kernel, by decide⟩
theorem kiX5_init : Cond.instanceMethod yX5_init ∈ lw_g := (lw_t1 111 rfl rfl)
def RSX5 (a1 : Nat) (_ : Nat → Nat) (h0 : Nat) (w : va_W) (ty : TyL) : Prop := ∃ (q0 : Nat) (q0_1 : Nat) (q1_1 : Nat) (c1_1 : ClassId) (c0_1 : ClassId), w = [(h0, .inr (5, [.ref a1, .ref q0])), (q0, .inr (4, [.ref q0_1, .ref q1_1, .int (iI 0)])), (q1_1, .inl (c1_1, 32, .inl (fun _ => iI 0))), (q0_1, .inl (c0_1, 240, .inl (fun _ => iI 0)))] ∧ ty = [(c1_1, .int), (c0_1, .int)]
set_option maxHeartbeats 4000000 in
set_option maxRecDepth 100000 in
theorem cnX5 (a1 : Nat) : CtN 2 3 275 yX5_init cX5_init 2 5 [.null, .null] [.ref a1] (RSX5 a1) := by
  refine ctn_intro RX5 (fun h0 => [(0, .ref h0), (1, .ref a1)]) (by decide) rfl rfl (fun _ => rfl) (fun _ => Nat.le_of_ble_eq_true rfl) (fun K h0 hO hRS => ?_)
  refine bw_aload 0 hO dX5_init_0 rfl rfl ?_
  refine bw_obj hO dX5_init_1 rfl (lw_t1 113 rfl rfl) objW (by decide) ?_
  refine bw_aload 0 hO dX5_init_4 rfl rfl ?_
  refine bw_new (fs := [.null, .null, .int 0]) hO dX5_init_5 rfl okX4 tyX4_ok (lw_t1 114 rfl rfl) (lw_t1 115 rfl rfl) (lw_t1 6 rfl rfl) (by decide) (by decide) (by decide) (fun q0 => ?_)
  refine bw_n1 ?_
  refine bw_dup hO dX5_init_8 rfl ?_
  refine bw_a1 ?_
  refine bw_callN (As := []) hO dX5_init_9 rfl (lw_t1n 116 rfl rfl) kX4_init rfl kiX4_init (cnX4) (by decide) rfl (Nat.le_of_ble_eq_true rfl) (by decide) (by decide) (fun w ty hrs => ?_)
  obtain ⟨q0_1, q1_1, c1_1, c0_1, rfl, rfl⟩ := hrs
  refine bw_cv ?_
  refine bw_put (f := 1) (fs' := [.null, .ref q0]) hO dX5_init_12 rfl okX5 tyX5_ok nmX5 (by decide) (lw_t1 132 rfl rfl) rfl rfl rfl (Nat.le_of_ble_eq_true rfl) rfl ?_
  refine bw_aload 0 hO dX5_init_15 rfl rfl ?_
  refine bw_aload 1 hO dX5_init_16 rfl rfl ?_
  refine bw_put (f := 0) (fs' := [.ref a1, .ref q0]) hO dX5_init_17 rfl okX5 tyX5_ok nmX5 (by decide) (lw_t1 131 rfl rfl) rfl rfl rfl (Nat.le_of_ble_eq_true rfl) rfl ?_
  exact bw_ret hO dX5_init_20 (by rw [hRS]; exact ⟨_, _, _, _, _, rfl, rfl⟩) (by decide) (by decide)
theorem dX3_init_0 : decode cX3_init 0 = .ok (.aload_n 0, 1) := by decide +kernel
theorem dX3_init_1 : decode cX3_init 1 = .ok (.invokespecial 3, 3) := by decide +kernel
theorem dX3_init_4 : decode cX3_init 4 = .ok (.aload_n 0, 1) := by decide +kernel
theorem dX3_init_5 : decode cX3_init 5 = .ok (.ldc 11, 2) := by decide +kernel
theorem dX3_init_7 : decode cX3_init 7 = .ok (.invokevirtual 13, 3) := by decide +kernel
theorem dX3_init_10 : decode cX3_init 10 = .ok (.newarray .int, 2) := by decide +kernel
theorem dX3_init_12 : decode cX3_init 12 = .ok (.putfield 19, 3) := by decide +kernel
theorem dX3_init_15 : decode cX3_init 15 = .ok (.aload_n 0, 1) := by decide +kernel
theorem dX3_init_16 : decode cX3_init 16 = .ok (.bipush 6, 2) := by decide +kernel
theorem dX3_init_18 : decode cX3_init 18 = .ok (.newarray .int, 2) := by decide +kernel
theorem dX3_init_20 : decode cX3_init 20 = .ok (.putfield 25, 3) := by decide +kernel
theorem dX3_init_23 : decode cX3_init 23 = .ok (.aload_n 0, 1) := by decide +kernel
theorem dX3_init_24 : decode cX3_init 24 = .ok (.aconst_null, 1) := by decide +kernel
theorem dX3_init_25 : decode cX3_init 25 = .ok (.putfield 28, 3) := by decide +kernel
theorem dX3_init_28 : decode cX3_init 28 = .ok (.aload_n 0, 1) := by decide +kernel
theorem dX3_init_29 : decode cX3_init 29 = .ok (.aload_n 1, 1) := by decide +kernel
theorem dX3_init_30 : decode cX3_init 30 = .ok (.putfield 32, 3) := by decide +kernel
theorem dX3_init_33 : decode cX3_init 33 = .ok (.return_, 1) := by decide +kernel
set_option maxRecDepth 100000 in
theorem kX3_init : CkB yX3_init cX3_init 2 none 1 := ⟨(lw_t1 181 rfl rfl), (lw_t1 9 rfl rfl), by decide +kernel, by decide⟩
theorem kiX3_init : Cond.instanceMethod yX3_init ∈ lw_g := (lw_t1 180 rfl rfl)
def RSX3 (a1 : Nat) (_ : Nat → Nat) (h0 : Nat) (w : va_W) (ty : TyL) : Prop := ∃ (q0 : Nat) (q1 : Nat) (c1 : ClassId) (c0 : ClassId), w = [(h0, .inr (3, [.ref a1, .ref q0, .ref q1, .null])), (q1, .inl (c1, 6, .inl (fun _ => iI 0))), (q0, .inl (c0, 6, .inl (fun _ => iI 0)))] ∧ ty = [(c1, .int), (c0, .int)]
set_option maxHeartbeats 4000000 in
set_option maxRecDepth 100000 in
theorem cnX3 (a1 : Nat) : CtN 2 2 12 yX3_init cX3_init 2 3 [.null, .null, .null, .null] [.ref a1] (RSX3 a1) := by
  refine ctn_intro RX3 (fun h0 => [(0, .ref h0), (1, .ref a1)]) (by decide) rfl rfl (fun _ => rfl) (fun _ => Nat.le_of_ble_eq_true rfl) (fun K h0 hO hRS => ?_)
  refine bw_aload 0 hO dX3_init_0 rfl rfl ?_
  refine bw_obj hO dX3_init_1 rfl (lw_t1 182 rfl rfl) objW (by decide) ?_
  refine bw_aload 0 hO dX3_init_4 rfl rfl ?_
  refine bw_slen (i := 1) hO dX3_init_5 dX3_init_7 rfl (by decide) hO.2.2.2.1.2.1 (lw_t1 184 rfl rfl) (by decide) (Nat.le_of_ble_eq_true rfl) (by decide) (by decide) ?_
  refine bw_newa (N := 6) hO dX3_init_10 rfl (lw_t1 62 rfl rfl) rfl rfl rfl (by decide) (by decide) (by decide) (by decide) (fun q0 c0 => ?_)
  refine bw_c1 ?_
  refine bw_put (f := 1) (fs' := [.null, .ref q0, .null, .null]) hO dX3_init_12 rfl okX3 tyX3_ok nmX3 (by decide) (lw_t1 195 rfl rfl) rfl rfl rfl (Nat.le_of_ble_eq_true rfl) rfl ?_
  refine bw_aload 0 hO dX3_init_15 rfl rfl ?_
  refine bw_bipush hO dX3_init_16 rfl (by decide) ?_
  refine bw_newa (N := 6) hO dX3_init_18 rfl (lw_t1 62 rfl rfl) rfl rfl rfl (by decide) (by decide) (by decide) (by decide) (fun q1 c1 => ?_)
  refine bw_c1 ?_
  refine bw_put (f := 2) (fs' := [.null, .ref q0, .ref q1, .null]) hO dX3_init_20 rfl okX3 tyX3_ok nmX3 (by decide) (lw_t1 196 rfl rfl) rfl rfl rfl (Nat.le_of_ble_eq_true rfl) rfl ?_
  refine bw_aload 0 hO dX3_init_23 rfl rfl ?_
  refine bw_null hO dX3_init_24 rfl ?_
  refine bw_put (f := 3) (fs' := [.null, .ref q0, .ref q1, .null]) hO dX3_init_25 rfl okX3 tyX3_ok nmX3 (by decide) (lw_t1 198 rfl rfl) rfl rfl rfl (Nat.le_of_ble_eq_true rfl) rfl ?_
  refine bw_aload 0 hO dX3_init_28 rfl rfl ?_
  refine bw_aload 1 hO dX3_init_29 rfl rfl ?_
  refine bw_put (f := 0) (fs' := [.ref a1, .ref q0, .ref q1, .null]) hO dX3_init_30 rfl okX3 tyX3_ok nmX3 (by decide) (lw_t1 194 rfl rfl) rfl rfl rfl (Nat.le_of_ble_eq_true rfl) rfl ?_
  exact bw_ret hO dX3_init_33 (by rw [hRS]; exact ⟨_, _, _, _, rfl, rfl⟩) (by decide) (by decide)
theorem dX1_init_0 : decode cX1_init 0 = .ok (.aload_n 0, 1) := by decide +kernel
theorem dX1_init_1 : decode cX1_init 1 = .ok (.invokespecial 3, 3) := by decide +kernel
theorem dX1_init_4 : decode cX1_init 4 = .ok (.aload_n 0, 1) := by decide +kernel
theorem dX1_init_5 : decode cX1_init 5 = .ok (.lconst 0, 1) := by decide +kernel
theorem dX1_init_6 : decode cX1_init 6 = .ok (.putfield 9, 3) := by decide +kernel
theorem dX1_init_9 : decode cX1_init 9 = .ok (.aload_n 0, 1) := by decide +kernel
theorem dX1_init_10 : decode cX1_init 10 = .ok (.aload_n 1, 1) := by decide +kernel
theorem dX1_init_11 : decode cX1_init 11 = .ok (.putfield 15, 3) := by decide +kernel
theorem dX1_init_14 : decode cX1_init 14 = .ok (.aload_n 0, 1) := by decide +kernel
theorem dX1_init_15 : decode cX1_init 15 = .ok (.aload_n 2, 1) := by decide +kernel
theorem dX1_init_16 : decode cX1_init 16 = .ok (.putfield 19, 3) := by decide +kernel
theorem dX1_init_19 : decode cX1_init 19 = .ok (.return_, 1) := by decide +kernel
set_option maxRecDepth 100000 in
theorem kX1_init : CkB yX1_init cX1_init 3 none 2 := ⟨(lw_t1 214 rfl rfl), (lw_t1 11 rfl rfl), by decide +kernel, by decide⟩
theorem kiX1_init : Cond.instanceMethod yX1_init ∈ lw_g := (lw_t1 213 rfl rfl)
def RSX1 (a1 : Nat) (a2 : Nat) (_ : Nat → Nat) (h0 : Nat) (w : va_W) (ty : TyL) : Prop := w = [(h0, .inr (1, [.ref a1, .ref a2, .long (lI 0)]))] ∧ ty = []
set_option maxHeartbeats 4000000 in
set_option maxRecDepth 100000 in
theorem cnX1 (a1 : Nat) (a2 : Nat) : CtN 1 0 0 yX1_init cX1_init 3 1 [.null, .null, .long 0] [.ref a1, .ref a2] (RSX1 a1 a2) := by
  refine ctn_intro RX1 (fun h0 => [(0, .ref h0), (1, .ref a1), (2, .ref a2)]) (by decide) rfl rfl (fun _ => rfl) (fun _ => Nat.le_of_ble_eq_true rfl) (fun K h0 hO hRS => ?_)
  refine bw_aload 0 hO dX1_init_0 rfl rfl ?_
  refine bw_obj hO dX1_init_1 rfl (lw_t1 215 rfl rfl) objW (by decide) ?_
  refine bw_aload 0 hO dX1_init_4 rfl rfl ?_
  refine bw_lconst0 hO dX1_init_5 rfl ?_
  refine bw_put (f := 2) (fs' := [.null, .null, .long (lI 0)]) hO dX1_init_6 rfl okX1 tyX1_ok nmX1 (by decide) (lw_t1 218 rfl rfl) rfl rfl rfl (Nat.le_of_ble_eq_true rfl) rfl ?_
  refine bw_aload 0 hO dX1_init_9 rfl rfl ?_
  refine bw_aload 1 hO dX1_init_10 rfl rfl ?_
  refine bw_put (f := 0) (fs' := [.ref a1, .null, .long (lI 0)]) hO dX1_init_11 rfl okX1 tyX1_ok nmX1 (by decide) (lw_t1 216 rfl rfl) rfl rfl rfl (Nat.le_of_ble_eq_true rfl) rfl ?_
  refine bw_aload 0 hO dX1_init_14 rfl rfl ?_
  refine bw_aload 2 hO dX1_init_15 rfl rfl ?_
  refine bw_put (f := 1) (fs' := [.ref a1, .ref a2, .long (lI 0)]) hO dX1_init_16 rfl okX1 tyX1_ok nmX1 (by decide) (lw_t1 217 rfl rfl) rfl rfl rfl (Nat.le_of_ble_eq_true rfl) rfl ?_
  exact bw_ret hO dX1_init_19 (by rw [hRS]; exact ⟨rfl, rfl⟩) (by decide) (by decide)
theorem dX6_init_0 : decode cX6_init 0 = .ok (.aload_n 0, 1) := by decide +kernel
theorem dX6_init_1 : decode cX6_init 1 = .ok (.invokespecial 3, 3) := by decide +kernel
theorem dX6_init_4 : decode cX6_init 4 = .ok (.aload_n 0, 1) := by decide +kernel
theorem dX6_init_5 : decode cX6_init 5 = .ok (.new 9, 3) := by decide +kernel
theorem dX6_init_8 : decode cX6_init 8 = .ok (.dup, 1) := by decide +kernel
theorem dX6_init_9 : decode cX6_init 9 = .ok (.invokespecial 11, 3) := by decide +kernel
theorem dX6_init_12 : decode cX6_init 12 = .ok (.putfield 12, 3) := by decide +kernel
theorem dX6_init_15 : decode cX6_init 15 = .ok (.aload_n 0, 1) := by decide +kernel
theorem dX6_init_16 : decode cX6_init 16 = .ok (.bipush 16, 2) := by decide +kernel
theorem dX6_init_18 : decode cX6_init 18 = .ok (.newarray .int, 2) := by decide +kernel
theorem dX6_init_20 : decode cX6_init 20 = .ok (.putfield 18, 3) := by decide +kernel
theorem dX6_init_23 : decode cX6_init 23 = .ok (.aload_n 0, 1) := by decide +kernel
theorem dX6_init_24 : decode cX6_init 24 = .ok (.iconst (-1), 1) := by decide +kernel
theorem dX6_init_25 : decode cX6_init 25 = .ok (.putfield 22, 3) := by decide +kernel
theorem dX6_init_28 : decode cX6_init 28 = .ok (.aload_n 0, 1) := by decide +kernel
theorem dX6_init_29 : decode cX6_init 29 = .ok (.iconst 0, 1) := by decide +kernel
theorem dX6_init_30 : decode cX6_init 30 = .ok (.putfield 26, 3) := by decide +kernel
theorem dX6_init_33 : decode cX6_init 33 = .ok (.aload_n 0, 1) := by decide +kernel
theorem dX6_init_34 : decode cX6_init 34 = .ok (.aload_n 1, 1) := by decide +kernel
theorem dX6_init_35 : decode cX6_init 35 = .ok (.putfield 29, 3) := by decide +kernel
theorem dX6_init_38 : decode cX6_init 38 = .ok (.aload_n 0, 1) := by decide +kernel
theorem dX6_init_39 : decode cX6_init 39 = .ok (.aload_n 2, 1) := by decide +kernel
theorem dX6_init_40 : decode cX6_init 40 = .ok (.putfield 33, 3) := by decide +kernel
theorem dX6_init_43 : decode cX6_init 43 = .ok (.return_, 1) := by decide +kernel
set_option maxRecDepth 100000 in
theorem kX6_init : CkB yX6_init cX6_init 3 none 2 := ⟨(lw_t1 231 rfl rfl), (lw_t1 12 rfl rfl), by decide +kernel, by decide⟩
theorem kiX6_init : Cond.instanceMethod yX6_init ∈ lw_g := (lw_t1 230 rfl rfl)
def RSX6 (a1 : Nat) (a2 : Nat) (_ : Nat → Nat) (h0 : Nat) (w : va_W) (ty : TyL) : Prop := ∃ (q0 : Nat) (q2 : Nat) (c2 : ClassId) (q0_1 : Nat) (c0_1 : ClassId), w = [(h0, .inr (6, [.ref a1, .ref a2, .ref q0, .ref q2, .int (iI (-1)), .int (iI 0)])), (q2, .inl (c2, 16, .inl (fun _ => iI 0))), (q0, .inr (7, [.ref q0_1])), (q0_1, .inl (c0_1, 98, .inl (fun _ => iI 0)))] ∧ ty = [(c2, .int), (c0_1, .int)]
set_option maxHeartbeats 4000000 in
set_option maxRecDepth 100000 in
theorem cnX6 (a1 : Nat) (a2 : Nat) : CtN 2 3 115 yX6_init cX6_init 3 6 [.null, .null, .null, .null, .int 0, .int 0] [.ref a1, .ref a2] (RSX6 a1 a2) := by
  refine ctn_intro RX6 (fun h0 => [(0, .ref h0), (1, .ref a1), (2, .ref a2)]) (by decide) rfl rfl (fun _ => rfl) (fun _ => Nat.le_of_ble_eq_true rfl) (fun K h0 hO hRS => ?_)
  refine bw_aload 0 hO dX6_init_0 rfl rfl ?_
  refine bw_obj hO dX6_init_1 rfl (lw_t1 232 rfl rfl) objW (by decide) ?_
  refine bw_aload 0 hO dX6_init_4 rfl rfl ?_
  refine bw_new (fs := [.null]) hO dX6_init_5 rfl okX7 tyX7_ok (lw_t1 233 rfl rfl) (lw_t1 144 rfl rfl) (lw_t1 7 rfl rfl) (by decide) (by decide) (by decide) (fun q0 => ?_)
  refine bw_n1 ?_
  refine bw_dup hO dX6_init_8 rfl ?_
  refine bw_a1 ?_
  refine bw_callN (As := []) hO dX6_init_9 rfl (lw_t1n 234 rfl rfl) kX7_init rfl kiX7_init (cnX7) (by decide) rfl (Nat.le_of_ble_eq_true rfl) (by decide) (by decide) (fun w ty hrs => ?_)
  obtain ⟨q0_1, c0_1, rfl, rfl⟩ := hrs
  refine bw_cv ?_
  refine bw_put (f := 2) (fs' := [.null, .null, .ref q0, .null, .int 0, .int 0]) hO dX6_init_12 rfl okX6 tyX6_ok nmX6 (by decide) (lw_t1 237 rfl rfl) rfl rfl rfl (Nat.le_of_ble_eq_true rfl) rfl ?_
  refine bw_aload 0 hO dX6_init_15 rfl rfl ?_
  refine bw_bipush hO dX6_init_16 rfl (by decide) ?_
  refine bw_newa (N := 16) hO dX6_init_18 rfl (lw_t1 62 rfl rfl) rfl rfl rfl (by decide) (by decide) (by decide) (by decide) (fun q2 c2 => ?_)
  refine bw_c1 ?_
  refine bw_put (f := 3) (fs' := [.null, .null, .ref q0, .ref q2, .int 0, .int 0]) hO dX6_init_20 rfl okX6 tyX6_ok nmX6 (by decide) (lw_t1 238 rfl rfl) rfl rfl rfl (Nat.le_of_ble_eq_true rfl) rfl ?_
  refine bw_aload 0 hO dX6_init_23 rfl rfl ?_
  refine bw_iconst hO dX6_init_24 rfl ?_
  refine bw_put (f := 4) (fs' := [.null, .null, .ref q0, .ref q2, .int (iI (-1)), .int 0]) hO dX6_init_25 rfl okX6 tyX6_ok nmX6 (by decide) (lw_t1 239 rfl rfl) rfl rfl rfl (Nat.le_of_ble_eq_true rfl) rfl ?_
  refine bw_aload 0 hO dX6_init_28 rfl rfl ?_
  refine bw_iconst hO dX6_init_29 rfl ?_
  refine bw_put (f := 5) (fs' := [.null, .null, .ref q0, .ref q2, .int (iI (-1)), .int (iI 0)]) hO dX6_init_30 rfl okX6 tyX6_ok nmX6 (by decide) (lw_t2 1 rfl rfl) rfl rfl rfl (Nat.le_of_ble_eq_true rfl) rfl ?_
  refine bw_aload 0 hO dX6_init_33 rfl rfl ?_
  refine bw_aload 1 hO dX6_init_34 rfl rfl ?_
  refine bw_put (f := 0) (fs' := [.ref a1, .null, .ref q0, .ref q2, .int (iI (-1)), .int (iI 0)]) hO dX6_init_35 rfl okX6 tyX6_ok nmX6 (by decide) (lw_t1 235 rfl rfl) rfl rfl rfl (Nat.le_of_ble_eq_true rfl) rfl ?_
  refine bw_aload 0 hO dX6_init_38 rfl rfl ?_
  refine bw_aload 2 hO dX6_init_39 rfl rfl ?_
  refine bw_put (f := 1) (fs' := [.ref a1, .ref a2, .ref q0, .ref q2, .int (iI (-1)), .int (iI 0)]) hO dX6_init_40 rfl okX6 tyX6_ok nmX6 (by decide) (lw_t1 236 rfl rfl) rfl rfl rfl (Nat.le_of_ble_eq_true rfl) rfl ?_
  exact bw_ret hO dX6_init_43 (by rw [hRS]; exact ⟨_, _, _, _, _, rfl, rfl⟩) (by decide) (by decide)
theorem dX2_init_0 : decode cX2_init 0 = .ok (.aload_n 0, 1) := by decide +kernel
theorem dX2_init_1 : decode cX2_init 1 = .ok (.invokespecial 3, 3) := by decide +kernel
theorem dX2_init_4 : decode cX2_init 4 = .ok (.aload_n 0, 1) := by decide +kernel
theorem dX2_init_5 : decode cX2_init 5 = .ok (.sipush 1000, 3) := by decide +kernel
theorem dX2_init_8 : decode cX2_init 8 = .ok (.newarray .int, 2) := by decide +kernel
theorem dX2_init_10 : decode cX2_init 10 = .ok (.putfield 11, 3) := by decide +kernel
theorem dX2_init_13 : decode cX2_init 13 = .ok (.aload_n 0, 1) := by decide +kernel
theorem dX2_init_14 : decode cX2_init 14 = .ok (.bipush 6, 2) := by decide +kernel
theorem dX2_init_16 : decode cX2_init 16 = .ok (.newarray .int, 2) := by decide +kernel
theorem dX2_init_18 : decode cX2_init 18 = .ok (.putfield 15, 3) := by decide +kernel
theorem dX2_init_21 : decode cX2_init 21 = .ok (.aload_n 0, 1) := by decide +kernel
theorem dX2_init_22 : decode cX2_init 22 = .ok (.bipush 36, 2) := by decide +kernel
theorem dX2_init_24 : decode cX2_init 24 = .ok (.newarray .int, 2) := by decide +kernel
theorem dX2_init_26 : decode cX2_init 26 = .ok (.putfield 18, 3) := by decide +kernel
theorem dX2_init_29 : decode cX2_init 29 = .ok (.aload_n 0, 1) := by decide +kernel
theorem dX2_init_30 : decode cX2_init 30 = .ok (.iconst 0, 1) := by decide +kernel
theorem dX2_init_31 : decode cX2_init 31 = .ok (.putfield 21, 3) := by decide +kernel
theorem dX2_init_34 : decode cX2_init 34 = .ok (.aload_n 0, 1) := by decide +kernel
theorem dX2_init_35 : decode cX2_init 35 = .ok (.iconst 0, 1) := by decide +kernel
theorem dX2_init_36 : decode cX2_init 36 = .ok (.putfield 25, 3) := by decide +kernel
theorem dX2_init_39 : decode cX2_init 39 = .ok (.aload_n 0, 1) := by decide +kernel
theorem dX2_init_40 : decode cX2_init 40 = .ok (.aload_n 1, 1) := by decide +kernel
theorem dX2_init_41 : decode cX2_init 41 = .ok (.putfield 28, 3) := by decide +kernel
theorem dX2_init_44 : decode cX2_init 44 = .ok (.return_, 1) := by decide +kernel
set_option maxRecDepth 100000 in
theorem kX2_init : CkB yX2_init cX2_init 2 none 1 := ⟨(lw_t2 20 rfl rfl), (lw_t1 13 rfl rfl), by decide +kernel, by decide⟩
theorem kiX2_init : Cond.instanceMethod yX2_init ∈ lw_g := (lw_t2 19 rfl rfl)
def RSX2 (a1 : Nat) (_ : Nat → Nat) (h0 : Nat) (w : va_W) (ty : TyL) : Prop := ∃ (q0 : Nat) (q1 : Nat) (q2 : Nat) (c2 : ClassId) (c1 : ClassId) (c0 : ClassId), w = [(h0, .inr (2, [.ref a1, .ref q0, .ref q1, .ref q2, .int (iI 0), .int (iI 0)])), (q2, .inl (c2, 36, .inl (fun _ => iI 0))), (q1, .inl (c1, 6, .inl (fun _ => iI 0))), (q0, .inl (c0, 1000, .inl (fun _ => iI 0)))] ∧ ty = [(c2, .int), (c1, .int), (c0, .int)]
set_option maxHeartbeats 4000000 in
set_option maxRecDepth 100000 in
theorem cnX2 (a1 : Nat) : CtN 1 3 1042 yX2_init cX2_init 2 2 [.null, .null, .null, .null, .int 0, .int 0] [.ref a1] (RSX2 a1) := by
  refine ctn_intro RX2 (fun h0 => [(0, .ref h0), (1, .ref a1)]) (by decide) rfl rfl (fun _ => rfl) (fun _ => Nat.le_of_ble_eq_true rfl) (fun K h0 hO hRS => ?_)
  refine bw_aload 0 hO dX2_init_0 rfl rfl ?_
  refine bw_obj hO dX2_init_1 rfl (lw_t2 21 rfl rfl) objW (by decide) ?_
  refine bw_aload 0 hO dX2_init_4 rfl rfl ?_
  refine bw_sipush hO dX2_init_5 rfl (by decide) ?_
  refine bw_newa (N := 1000) hO dX2_init_8 rfl (lw_t1 62 rfl rfl) rfl rfl rfl (by decide) (by decide) (by decide) (by decide) (fun q0 c0 => ?_)
  refine bw_c1 ?_
  refine bw_put (f := 1) (fs' := [.null, .ref q0, .null, .null, .int 0, .int 0]) hO dX2_init_10 rfl okX2 tyX2_ok nmX2 (by decide) (lw_t2 23 rfl rfl) rfl rfl rfl (Nat.le_of_ble_eq_true rfl) rfl ?_
  refine bw_aload 0 hO dX2_init_13 rfl rfl ?_
  refine bw_bipush hO dX2_init_14 rfl (by decide) ?_
  refine bw_newa (N := 6) hO dX2_init_16 rfl (lw_t1 62 rfl rfl) rfl rfl rfl (by decide) (by decide) (by decide) (by decide) (fun q1 c1 => ?_)
  refine bw_c1 ?_
  refine bw_put (f := 2) (fs' := [.null, .ref q0, .ref q1, .null, .int 0, .int 0]) hO dX2_init_18 rfl okX2 tyX2_ok nmX2 (by decide) (lw_t2 25 rfl rfl) rfl rfl rfl (Nat.le_of_ble_eq_true rfl) rfl ?_
  refine bw_aload 0 hO dX2_init_21 rfl rfl ?_
  refine bw_bipush hO dX2_init_22 rfl (by decide) ?_
  refine bw_newa (N := 36) hO dX2_init_24 rfl (lw_t1 62 rfl rfl) rfl rfl rfl (by decide) (by decide) (by decide) (by decide) (fun q2 c2 => ?_)
  refine bw_c1 ?_
  refine bw_put (f := 3) (fs' := [.null, .ref q0, .ref q1, .ref q2, .int 0, .int 0]) hO dX2_init_26 rfl okX2 tyX2_ok nmX2 (by decide) (lw_t2 26 rfl rfl) rfl rfl rfl (Nat.le_of_ble_eq_true rfl) rfl ?_
  refine bw_aload 0 hO dX2_init_29 rfl rfl ?_
  refine bw_iconst hO dX2_init_30 rfl ?_
  refine bw_put (f := 4) (fs' := [.null, .ref q0, .ref q1, .ref q2, .int (iI 0), .int 0]) hO dX2_init_31 rfl okX2 tyX2_ok nmX2 (by decide) (lw_t2 27 rfl rfl) rfl rfl rfl (Nat.le_of_ble_eq_true rfl) rfl ?_
  refine bw_aload 0 hO dX2_init_34 rfl rfl ?_
  refine bw_iconst hO dX2_init_35 rfl ?_
  refine bw_put (f := 5) (fs' := [.null, .ref q0, .ref q1, .ref q2, .int (iI 0), .int (iI 0)]) hO dX2_init_36 rfl okX2 tyX2_ok nmX2 (by decide) (lw_t2 29 rfl rfl) rfl rfl rfl (Nat.le_of_ble_eq_true rfl) rfl ?_
  refine bw_aload 0 hO dX2_init_39 rfl rfl ?_
  refine bw_aload 1 hO dX2_init_40 rfl rfl ?_
  refine bw_put (f := 0) (fs' := [.ref a1, .ref q0, .ref q1, .ref q2, .int (iI 0), .int (iI 0)]) hO dX2_init_41 rfl okX2 tyX2_ok nmX2 (by decide) (lw_t2 22 rfl rfl) rfl rfl rfl (Nat.le_of_ble_eq_true rfl) rfl ?_
  exact bw_ret hO dX2_init_44 (by rw [hRS]; exact ⟨_, _, _, _, _, _, rfl, rfl⟩) (by decide) (by decide)
theorem dX0_init_0 : decode cX0_init 0 = .ok (.aload_n 0, 1) := by decide +kernel
theorem dX0_init_1 : decode cX0_init 1 = .ok (.invokespecial 3, 3) := by decide +kernel
theorem dX0_init_4 : decode cX0_init 4 = .ok (.aload_n 0, 1) := by decide +kernel
theorem dX0_init_5 : decode cX0_init 5 = .ok (.bipush 40, 2) := by decide +kernel
theorem dX0_init_7 : decode cX0_init 7 = .ok (.bipush 98, 2) := by decide +kernel
theorem dX0_init_9 : decode cX0_init 9 = .ok (.multianewarray 11 2, 4) := by decide +kernel
theorem dX0_init_13 : decode cX0_init 13 = .ok (.putfield 13, 3) := by decide +kernel
theorem dX0_init_16 : decode cX0_init 16 = .ok (.aload_n 0, 1) := by decide +kernel
theorem dX0_init_17 : decode cX0_init 17 = .ok (.iconst 0, 1) := by decide +kernel
theorem dX0_init_18 : decode cX0_init 18 = .ok (.putfield 18, 3) := by decide +kernel
theorem dX0_init_21 : decode cX0_init 21 = .ok (.aload_n 0, 1) := by decide +kernel
theorem dX0_init_22 : decode cX0_init 22 = .ok (.iconst 0, 1) := by decide +kernel
theorem dX0_init_23 : decode cX0_init 23 = .ok (.putfield 22, 3) := by decide +kernel
theorem dX0_init_26 : decode cX0_init 26 = .ok (.return_, 1) := by decide +kernel
set_option maxRecDepth 100000 in
theorem kX0_init : CkB yX0_init cX0_init 1 none 0 := ⟨(lw_t1 162 rfl rfl), (lw_t1 8 rfl rfl), by decide +kernel, by decide⟩
theorem kiX0_init : Cond.instanceMethod yX0_init ∈ lw_g := (lw_t1 161 rfl rfl)
def RSX0 (_ : Nat → Nat) (h0 : Nat) (w : va_W) (ty : TyL) : Prop := ∃ (q0 : Nat) (cA : ClassId) (cB : ClassId), w = (h0, .inr (0, [.ref q0, .int (iI 0), .int (iI 0)])) :: (rowsW q0 cA cB 40 98 ++ []) ∧ ty = [(cA, .array .int), (cB, .int)]
set_option maxHeartbeats 4000000 in
set_option maxRecDepth 100000 in
theorem cnX0 : CtN 1 41 3960 yX0_init cX0_init 1 0 [.null, .int 0, .int 0] [] RSX0 := by
  refine ctn_intro RX0 (fun h0 => [(0, .ref h0)]) (by decide) rfl rfl (fun _ => rfl) (fun _ => Nat.le_of_ble_eq_true rfl) (fun K h0 hO hRS => ?_)
  refine bw_aload 0 hO dX0_init_0 rfl rfl ?_
  refine bw_obj hO dX0_init_1 rfl (lw_t1 163 rfl rfl) objW (by decide) ?_
  refine bw_aload 0 hO dX0_init_4 rfl rfl ?_
  refine bw_bipush hO dX0_init_5 rfl (by decide) ?_
  refine bw_bipush hO dX0_init_7 rfl (by decide) ?_
  refine bw_rows (N := 40) (M := 98) hO dX0_init_9 rfl (lw_t1 164 rfl rfl) rfl rfl (by decide) (by decide) (by decide) (by decide) (fun q0 cA cB => ?_)
  refine bw_cv ?_
  refine bw_put (f := 0) (fs' := [.ref q0, .int 0, .int 0]) hO dX0_init_13 rfl okX0 tyX0_ok nmX0 (by decide) (lw_t1 166 rfl rfl) rfl rfl rfl (Nat.le_of_ble_eq_true rfl) rfl ?_
  refine bw_aload 0 hO dX0_init_16 rfl rfl ?_
  refine bw_iconst hO dX0_init_17 rfl ?_
  refine bw_put (f := 1) (fs' := [.ref q0, .int (iI 0), .int 0]) hO dX0_init_18 rfl okX0 tyX0_ok nmX0 (by decide) (lw_t1 167 rfl rfl) rfl rfl rfl (Nat.le_of_ble_eq_true rfl) rfl ?_
  refine bw_aload 0 hO dX0_init_21 rfl rfl ?_
  refine bw_iconst hO dX0_init_22 rfl ?_
  refine bw_put (f := 2) (fs' := [.ref q0, .int (iI 0), .int (iI 0)]) hO dX0_init_23 rfl okX0 tyX0_ok nmX0 (by decide) (lw_t1 169 rfl rfl) rfl rfl rfl (Nat.le_of_ble_eq_true rfl) rfl ?_
  exact bw_ret hO dX0_init_26 (by rw [hRS]; exact ⟨_, _, _, rfl, rfl⟩) (by decide) (by decide)
