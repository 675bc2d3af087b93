/-! ## what the Statement gives of the start: the static rows, the texts, the words of a throw -/
def flG : List Cond := flatC (Jvm.Cond.and given_1 narrow_1)
set_option maxRecDepth 100000 in
theorem prA : ∀ i : Fin 6, Cond.arrayOf (.static RX10 (stN i.val) "[I") .int ∈ flG := by decide +kernel
set_option maxRecDepth 100000 in
theorem prL : ∀ i : Fin 6, Cond.eq (.length (.static RX10 (stN i.val) "[I")) (.int (Int32.ofNat (stL i.val))) ∈ flG := by decide +kernel
set_option maxRecDepth 100000 in
theorem prE : ∀ (i : Fin 6) (j : Fin 12), j.val < stL i.val → Cond.eq (.elem (.static RX10 (stN i.val) "[I") (.int (Int32.ofNat j.val))) (.int (iI (stV i.val j.val))) ∈ flG := by decide +kernel
set_option maxRecDepth 100000 in
theorem prZ : ∀ i : Fin 6, lw_tbl[([549, 555, 564, 570, 572, 454] : List Nat).getD i.val 0]? = some (Cond.laysStatic RX10 (stN i.val) "[I") := by decide +kernel
theorem stL_le : ∀ i : Fin 6, stL i.val ≤ 12 := by decide
def tmS (i : Nat) : Term := if i = 0 then .string RX10 63 else .string RX5 73
set_option maxRecDepth 100000 in
theorem prX : ∀ i : Fin 2, Cond.exactly (tmS i.val) RJ0 ∈ flG ∧ Cond.eq (.field (tmS i.val) RJ0 "coder" "B") (.int 0) ∈ flG ∧ Cond.arrayOf (.field (tmS i.val) RJ0 "value" "[B") .byte ∈ flG ∧ Cond.eq (.length (.field (tmS i.val) RJ0 "value" "[B")) (.int (Int32.ofNat (txL i.val))) ∈ flG := by decide +kernel
set_option maxRecDepth 100000 in
theorem prY : ∀ (i : Fin 2) (j : Fin 6), j.val < txL i.val → Cond.eq (.elem (.field (tmS i.val) RJ0 "value" "[B") (.int (Int32.ofNat j.val))) (.int (iI (txV i.val j.val))) ∈ flG := by decide +kernel
set_option maxRecDepth 100000 in
theorem prO : Cond.eq (.string RX3 11) (.string RX5 73) ∈ flG ∧ Cond.eq (.static RJ0 "COMPACT_STRINGS" "Z") (.int 1) ∈ flG ∧ Cond.exactly (.string RX11 170) RJ0 ∈ flG ∧ Cond.exactly (.string RX11 191) RJ0 ∈ flG ∧ Cond.isRef (.static Bundle.tN "UNASSIGNED_STACK" Bundle.steD) ∈ flG ∧ Cond.isRef (.static Bundle.tN "SUPPRESSED_SENTINEL" Bundle.listD) ∈ flG := by decide +kernel
theorem over_spec {args : Array Value} {s : State} {t : FieldType} (h : (Cond.arrayOver (.array t)).before args s = true) : ∃ comp c k, s.vm.findClass (FieldType.array t).toString = some comp ∧ s.vm.classes[c]? = some k ∧ k.kind = .array comp (.array t) ∧ s.vm.findClass ("[" ++ (FieldType.array t).toString) = some c := by
  have h : (Cond.arrayOver (.array t)).holds args s none s [] = true := h
  simp only [Cond.holds, Cond.value, beq_iff_eq] at h
  cases hc : s.vm.findClass (FieldType.array t).toString with
  | none => simp [hc] at h
  | some comp =>
    simp only [hc, Option.bind_some, Option.bind_eq_some_iff, Option.map_eq_some_iff] at h
    obtain ⟨c, hi, k, hk, hb⟩ := h
    obtain ⟨hlt, hp, -⟩ := Array.findIdx?_eq_some_iff_getElem.mp hi
    have hkk : s.vm.classes[c] = k := (Array.getElem?_eq_some_iff.mp hk).2
    rw [hkk] at hp
    cases hkind : k.kind with
    | array component ty =>
      rw [hkind] at hb hp
      simp at hb hp
      exact ⟨comp, c, k, rfl, hk, by rw [hkind, hp, hb.1], hb.2⟩
    | _ => rw [hkind] at hb; simp at hb
set_option maxHeartbeats 1000000 in
set_option maxRecDepth 100000 in
theorem prem {b : Nat} {s : State} (hts : ∀ w ∈ lw_tbl, w.before #[Value.ref b] s = true) (hgv : (Jvm.Cond.and given_1 narrow_1).before #[Value.ref b] s = true) : ∃ q : Nat → Nat, XE q (fun a => s.heap.size ≤ a) s ∧ XT q (fun a => s.heap.size ≤ a) s := by
  have hs : ∀ c ∈ flG, c.before #[Value.ref b] s = true := flat_of_before _ hgv
  have hA : ∀ a : Nat, a < s.heap.size → ¬ (fun a => s.heap.size ≤ a) a := fun a h => Nat.not_le.mpr h
  have hst : ∀ i, i < 6 → ∃ t, va_Z RX10 (stN i) "[I" (.ref t) (fun a => s.heap.size ≤ a) s s.heap ∧ va_T .int t (stL i) (fun j => .int (iI (stV i j))) (fun a => s.heap.size ≤ a) s s.heap := fun i hi => by
    have hle := stL_le ⟨i, hi⟩
    dsimp only at hle
    obtain ⟨t, ht, hT⟩ := va_Tof (tm := .static RX10 (stN i) "[I") (N := stL i) (f := fun j => .int (iI (stV i j))) (A := fun a => s.heap.size ≤ a) (by omega) (hs _ (prA ⟨i, hi⟩)) (va_eqt (hs _ (prL ⟨i, hi⟩))) (fun j hj => va_eqt (hs _ (prE ⟨i, hi⟩ ⟨j, by omega⟩ hj))) hA
    exact ⟨t, va_Zof (hts _ (List.mem_of_getElem? (prZ ⟨i, hi⟩))) (hts _ (List.mem_of_getElem? (i := 89) (by decide +kernel))) ht hA, hT⟩
  have htx : ∀ i, i < 2 → ∃ a t, (tmS i).eval #[Value.ref b] s none [] s = some (.ref a) ∧ va_O RJ0 a (fun a => s.heap.size ≤ a) s s.heap ∧ va_OF RJ0 "coder" "B" (.int 0) a (fun a => s.heap.size ≤ a) s s.heap ∧ va_OF RJ0 "value" "[B" (.ref t) a (fun a => s.heap.size ≤ a) s s.heap ∧ va_T .byte t (txL i) (fun j => .int (iI (txV i j))) (fun a => s.heap.size ≤ a) s s.heap := fun i hi => by
    have hle := txL_lt (i := i)
    obtain ⟨x1, x2, x3, x4⟩ := prX ⟨i, hi⟩
    obtain ⟨a, c, cA, kA, q1, q2, q3, q4, q5, q6, -⟩ := Cond.exactly_spec (args := #[Value.ref b]) (first := s) (o := none) (s := s) (idx := []) (t := tmS i) (cls := RJ0) (hs _ x1)
    obtain ⟨t, ht, hT⟩ := va_Tof (tm := .field (tmS i) RJ0 "value" "[B") (N := txL i) (f := fun j => .int (iI (txV i j))) (A := fun a => s.heap.size ≤ a) (by omega) (hs _ x3) (va_eqt (hs _ x4)) (fun j hj => va_eqt (hs _ (prY ⟨i, hi⟩ ⟨j, by omega⟩ hj))) hA
    exact ⟨a, t, q1, va_Oof (hs _ x1) q1 hA, vk_OFof q1 (va_eqt (hs _ x2)) hA, vk_OFof q1 ht hA, hT⟩
  obtain ⟨o1, o2, o3, o4, o5, o6⟩ := prO
  obtain ⟨t0, z0⟩ := hst 0 (by decide)
  obtain ⟨t1, z1⟩ := hst 1 (by decide)
  obtain ⟨t2, z2⟩ := hst 2 (by decide)
  obtain ⟨t3, z3⟩ := hst 3 (by decide)
  obtain ⟨t4, z4⟩ := hst 4 (by decide)
  obtain ⟨t5, z5⟩ := hst 5 (by decide)
  obtain ⟨a0, v0, y0, w0⟩ := htx 0 (by decide)
  obtain ⟨a1, v1, y1, w1⟩ := htx 1 (by decide)
  obtain ⟨e0, -, -, -, u0, -⟩ := Cond.exactly_spec (args := #[Value.ref b]) (first := s) (o := none) (s := s) (idx := []) (t := .string RX11 170) (cls := RJ0) (hs _ o3)
  obtain ⟨e1, -, -, -, u1, -⟩ := Cond.exactly_spec (args := #[Value.ref b]) (first := s) (o := none) (s := s) (idx := []) (t := .string RX11 191) (cls := RJ0) (hs _ o4)
  have hXC : XC (fun k => [t0, t1, t2, t3, t4, t5, a0, a1, v0, v1, e0, e1].getD (k - 86) 0) (fun a => s.heap.size ≤ a) s := by
    refine ⟨fun i hi => ?_, ⟨vk_R.of (hts _ (List.mem_of_getElem? (i := 470) (by decide +kernel))) y0, vk_R.of (hts _ (List.mem_of_getElem? (i := 592) (by decide +kernel))) y1⟩, fun i hi => ?_, va_Zof (hts _ (List.mem_of_getElem? (i := 279) (by decide +kernel))) (hts _ (List.mem_of_getElem? (i := 96) (by decide +kernel))) (va_eqi (hs _ o2)) hA⟩
    · match i, hi with
      | 0, _ => exact z0
      | 1, _ => exact z1
      | 2, _ => exact z2
      | 3, _ => exact z3
      | 4, _ => exact z4
      | 5, _ => exact z5
      | i + 6, hi => exact absurd hi (by omega)
    · match i, hi with
      | 0, _ => exact w0
      | 1, _ => exact w1
      | i + 2, hi => exact absurd hi (by omega)
  refine ⟨_, ⟨hXC, vk_R.of (hts _ (List.mem_of_getElem? (i := 269) (by decide +kernel))) (va_eqv (hs _ o1) y1), va_AO.of (hts _ (List.mem_of_getElem? (i := 226) (by decide +kernel))), ?_⟩, hXC, ⟨vk_R.of (hts _ (List.mem_of_getElem? (i := 1226) (by decide +kernel))) u0, vk_R.of (hts _ (List.mem_of_getElem? (i := 1253) (by decide +kernel))) u1⟩, ⟨vx_Zqof (hts _ (List.mem_of_getElem? (i := 1214) (by decide +kernel))) (hts _ (List.mem_of_getElem? (i := 108) (by decide +kernel))) (hs _ o5) hA, vx_Zqof (hts _ (List.mem_of_getElem? (i := 1216) (by decide +kernel))) (hts _ (List.mem_of_getElem? (i := 108) (by decide +kernel))) (hs _ o6) hA⟩, fun w hw => ?_⟩
  · obtain ⟨comp, cA, kA, h1, h2, h3, h4⟩ := over_spec (t := .int) (hts _ (List.mem_of_getElem? (i := 251) (by decide +kernel)))
    obtain ⟨c2, k2, cc2, g1, g2, g3⟩ := Cond.arrayClass_spec (args := #[Value.ref b]) (first := s) (o := none) (idx := []) (hts (.arrayClass .int) (List.mem_of_getElem? (i := 148) (by decide +kernel)))
    cases h1.symm.trans g1
    exact ⟨cA, comp, cc2, kA, k2, h4, h1, h2, h3, g2, g3⟩
  · simp only [neeB, List.mem_cons, List.not_mem_nil, or_false] at hw
    rcases hw with rfl | rfl | rfl | rfl
    · exact va_Nw.of rfl (hts _ (List.mem_of_getElem? (i := 1191) (by decide +kernel)))
    · exact va_Nw.of rfl (hts _ (List.mem_of_getElem? (i := 1193) (by decide +kernel)))
    · exact va_Nw.of rfl (hts _ (List.mem_of_getElem? (i := 1195) (by decide +kernel)))
    · exact va_Nw.of rfl (hts _ (List.mem_of_getElem? (i := 1189) (by decide +kernel)))
