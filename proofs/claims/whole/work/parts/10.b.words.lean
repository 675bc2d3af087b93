/-! ## words by their tables -/
theorem lw_t1 {w : Cond} (i : Nat) (h : tables_1_1[i]? = some w) (g : goodWord w = true) : w ∈ lw_g := by
  have hm := List.mem_of_getElem? h
  exact List.mem_filter.mpr ⟨List.mem_append_right (k2_sels lw_privs) (show w ∈ tables_1 from List.mem_append_left _ hm), g⟩
theorem lw_t1n {w : Cond} (i : Nat) (h : tables_1_1[i]? = some w) (g : isNst w = true) : w ∈ lw_n := by
  have hm := List.mem_of_getElem? h
  exact List.mem_filter.mpr ⟨List.mem_append_right (k2_sels lw_privs) (show w ∈ tables_1 from List.mem_append_left _ hm), g⟩
theorem lw_t2 {w : Cond} (i : Nat) (h : tables_1_2[i]? = some w) (g : goodWord w = true) : w ∈ lw_g := by
  have hm := List.mem_of_getElem? h
  exact List.mem_filter.mpr ⟨List.mem_append_right (k2_sels lw_privs) (show w ∈ tables_1 from List.mem_append_right _ (List.mem_append_left _ hm)), g⟩
theorem lw_t2n {w : Cond} (i : Nat) (h : tables_1_2[i]? = some w) (g : isNst w = true) : w ∈ lw_n := by
  have hm := List.mem_of_getElem? h
  exact List.mem_filter.mpr ⟨List.mem_append_right (k2_sels lw_privs) (show w ∈ tables_1 from List.mem_append_right _ (List.mem_append_left _ hm)), g⟩
theorem lw_t3 {w : Cond} (i : Nat) (h : tables_1_3[i]? = some w) (g : goodWord w = true) : w ∈ lw_g := by
  have hm := List.mem_of_getElem? h
  exact List.mem_filter.mpr ⟨List.mem_append_right (k2_sels lw_privs) (show w ∈ tables_1 from List.mem_append_right _ (List.mem_append_right _ (List.mem_append_left _ hm))), g⟩
theorem lw_t3n {w : Cond} (i : Nat) (h : tables_1_3[i]? = some w) (g : isNst w = true) : w ∈ lw_n := by
  have hm := List.mem_of_getElem? h
  exact List.mem_filter.mpr ⟨List.mem_append_right (k2_sels lw_privs) (show w ∈ tables_1 from List.mem_append_right _ (List.mem_append_right _ (List.mem_append_left _ hm))), g⟩
theorem lw_t4 {w : Cond} (i : Nat) (h : tables_1_4[i]? = some w) (g : goodWord w = true) : w ∈ lw_g := by
  have hm := List.mem_of_getElem? h
  exact List.mem_filter.mpr ⟨List.mem_append_right (k2_sels lw_privs) (show w ∈ tables_1 from List.mem_append_right _ (List.mem_append_right _ (List.mem_append_right _ (List.mem_append_left _ hm)))), g⟩
theorem lw_t4n {w : Cond} (i : Nat) (h : tables_1_4[i]? = some w) (g : isNst w = true) : w ∈ lw_n := by
  have hm := List.mem_of_getElem? h
  exact List.mem_filter.mpr ⟨List.mem_append_right (k2_sels lw_privs) (show w ∈ tables_1 from List.mem_append_right _ (List.mem_append_right _ (List.mem_append_right _ (List.mem_append_left _ hm)))), g⟩
theorem lw_t5 {w : Cond} (i : Nat) (h : tables_1_5[i]? = some w) (g : goodWord w = true) : w ∈ lw_g := by
  have hm := List.mem_of_getElem? h
  exact List.mem_filter.mpr ⟨List.mem_append_right (k2_sels lw_privs) (show w ∈ tables_1 from List.mem_append_right _ (List.mem_append_right _ (List.mem_append_right _ (List.mem_append_right _ (List.mem_append_left _ hm))))), g⟩
theorem lw_t5n {w : Cond} (i : Nat) (h : tables_1_5[i]? = some w) (g : isNst w = true) : w ∈ lw_n := by
  have hm := List.mem_of_getElem? h
  exact List.mem_filter.mpr ⟨List.mem_append_right (k2_sels lw_privs) (show w ∈ tables_1 from List.mem_append_right _ (List.mem_append_right _ (List.mem_append_right _ (List.mem_append_right _ (List.mem_append_left _ hm))))), g⟩
theorem lw_t6 {w : Cond} (i : Nat) (h : tables_1_6[i]? = some w) (g : goodWord w = true) : w ∈ lw_g := by
  have hm := List.mem_of_getElem? h
  exact List.mem_filter.mpr ⟨List.mem_append_right (k2_sels lw_privs) (show w ∈ tables_1 from List.mem_append_right _ (List.mem_append_right _ (List.mem_append_right _ (List.mem_append_right _ (List.mem_append_right _ (List.mem_append_left _ hm)))))), g⟩
theorem lw_t6n {w : Cond} (i : Nat) (h : tables_1_6[i]? = some w) (g : isNst w = true) : w ∈ lw_n := by
  have hm := List.mem_of_getElem? h
  exact List.mem_filter.mpr ⟨List.mem_append_right (k2_sels lw_privs) (show w ∈ tables_1 from List.mem_append_right _ (List.mem_append_right _ (List.mem_append_right _ (List.mem_append_right _ (List.mem_append_right _ (List.mem_append_left _ hm)))))), g⟩
theorem lw_t7 {w : Cond} (i : Nat) (h : tables_1_7[i]? = some w) (g : goodWord w = true) : w ∈ lw_g := by
  have hm := List.mem_of_getElem? h
  exact List.mem_filter.mpr ⟨List.mem_append_right (k2_sels lw_privs) (show w ∈ tables_1 from List.mem_append_right _ (List.mem_append_right _ (List.mem_append_right _ (List.mem_append_right _ (List.mem_append_right _ (List.mem_append_right _ (List.mem_append_left _ hm))))))), g⟩
theorem lw_t7n {w : Cond} (i : Nat) (h : tables_1_7[i]? = some w) (g : isNst w = true) : w ∈ lw_n := by
  have hm := List.mem_of_getElem? h
  exact List.mem_filter.mpr ⟨List.mem_append_right (k2_sels lw_privs) (show w ∈ tables_1 from List.mem_append_right _ (List.mem_append_right _ (List.mem_append_right _ (List.mem_append_right _ (List.mem_append_right _ (List.mem_append_right _ (List.mem_append_left _ hm))))))), g⟩
theorem lw_t8 {w : Cond} (i : Nat) (h : tables_1_8[i]? = some w) (g : goodWord w = true) : w ∈ lw_g := by
  have hm := List.mem_of_getElem? h
  exact List.mem_filter.mpr ⟨List.mem_append_right (k2_sels lw_privs) (show w ∈ tables_1 from List.mem_append_right _ (List.mem_append_right _ (List.mem_append_right _ (List.mem_append_right _ (List.mem_append_right _ (List.mem_append_right _ (List.mem_append_right _ (hm)))))))), g⟩
theorem lw_t8n {w : Cond} (i : Nat) (h : tables_1_8[i]? = some w) (g : isNst w = true) : w ∈ lw_n := by
  have hm := List.mem_of_getElem? h
  exact List.mem_filter.mpr ⟨List.mem_append_right (k2_sels lw_privs) (show w ∈ tables_1 from List.mem_append_right _ (List.mem_append_right _ (List.mem_append_right _ (List.mem_append_right _ (List.mem_append_right _ (List.mem_append_right _ (List.mem_append_right _ (hm)))))))), g⟩
theorem lw_p1x {q : MethodName × Nat} (i : Nat) (h : lw_privs_1[i]? = some q) : Cond.selects q.1.cls q.1 q.1 ∈ lw_g := by
  have hm := List.mem_of_getElem? h
  exact List.mem_filter.mpr ⟨List.mem_append_left tables_1 (List.mem_map.mpr ⟨q, show q ∈ lw_privs from List.mem_append_left _ hm, rfl⟩), rfl⟩
theorem lw_q1 {y : MethodName} {n : Nat} (i : Nat) (h : lw_privs_1[i]? = some (y, n)) : Cond.selects y.cls y y ∈ lw_g := lw_p1x i h
theorem lw_p2x {q : MethodName × Nat} (i : Nat) (h : lw_privs_2[i]? = some q) : Cond.selects q.1.cls q.1 q.1 ∈ lw_g := by
  have hm := List.mem_of_getElem? h
  exact List.mem_filter.mpr ⟨List.mem_append_left tables_1 (List.mem_map.mpr ⟨q, show q ∈ lw_privs from List.mem_append_right _ (List.mem_append_left _ hm), rfl⟩), rfl⟩
theorem lw_q2 {y : MethodName} {n : Nat} (i : Nat) (h : lw_privs_2[i]? = some (y, n)) : Cond.selects y.cls y y ∈ lw_g := lw_p2x i h
theorem lw_p3x {q : MethodName × Nat} (i : Nat) (h : lw_privs_3[i]? = some q) : Cond.selects q.1.cls q.1 q.1 ∈ lw_g := by
  have hm := List.mem_of_getElem? h
  exact List.mem_filter.mpr ⟨List.mem_append_left tables_1 (List.mem_map.mpr ⟨q, show q ∈ lw_privs from List.mem_append_right _ (List.mem_append_right _ (List.mem_append_left _ hm)), rfl⟩), rfl⟩
theorem lw_q3 {y : MethodName} {n : Nat} (i : Nat) (h : lw_privs_3[i]? = some (y, n)) : Cond.selects y.cls y y ∈ lw_g := lw_p3x i h
theorem lw_p4x {q : MethodName × Nat} (i : Nat) (h : lw_privs_4[i]? = some q) : Cond.selects q.1.cls q.1 q.1 ∈ lw_g := by
  have hm := List.mem_of_getElem? h
  exact List.mem_filter.mpr ⟨List.mem_append_left tables_1 (List.mem_map.mpr ⟨q, show q ∈ lw_privs from List.mem_append_right _ (List.mem_append_right _ (List.mem_append_right _ (List.mem_append_left _ hm))), rfl⟩), rfl⟩
theorem lw_q4 {y : MethodName} {n : Nat} (i : Nat) (h : lw_privs_4[i]? = some (y, n)) : Cond.selects y.cls y y ∈ lw_g := lw_p4x i h
theorem lw_p5x {q : MethodName × Nat} (i : Nat) (h : lw_privs_5[i]? = some q) : Cond.selects q.1.cls q.1 q.1 ∈ lw_g := by
  have hm := List.mem_of_getElem? h
  exact List.mem_filter.mpr ⟨List.mem_append_left tables_1 (List.mem_map.mpr ⟨q, show q ∈ lw_privs from List.mem_append_right _ (List.mem_append_right _ (List.mem_append_right _ (List.mem_append_right _ (List.mem_append_left _ hm)))), rfl⟩), rfl⟩
theorem lw_q5 {y : MethodName} {n : Nat} (i : Nat) (h : lw_privs_5[i]? = some (y, n)) : Cond.selects y.cls y y ∈ lw_g := lw_p5x i h
theorem lw_p6x {q : MethodName × Nat} (i : Nat) (h : lw_privs_6[i]? = some q) : Cond.selects q.1.cls q.1 q.1 ∈ lw_g := by
  have hm := List.mem_of_getElem? h
  exact List.mem_filter.mpr ⟨List.mem_append_left tables_1 (List.mem_map.mpr ⟨q, show q ∈ lw_privs from List.mem_append_right _ (List.mem_append_right _ (List.mem_append_right _ (List.mem_append_right _ (List.mem_append_right _ (hm))))), rfl⟩), rfl⟩
theorem lw_q6 {y : MethodName} {n : Nat} (i : Nat) (h : lw_privs_6[i]? = some (y, n)) : Cond.selects y.cls y y ∈ lw_g := lw_p6x i h
