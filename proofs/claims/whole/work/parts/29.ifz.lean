/-! ## branches on an answer that is yes or no -/
theorem aw_ifz_eq {P : LPk} {Q : Option AV → Mm → Prop} {K : KT} {cc : ByteArray} {own : String} {nL d : Nat} {ret : Option FieldType} {pc n : Nat} {ls : List (Option AV)} {st : List AV} {μ : Mm} {p : Prop} [Decidable p] {off : Int} {tgt : Nat} (hO : KOk P Q K cc own nL d ret) (hd : decode cc pc = .ok (.ifCond .eq off, 3)) (hn : pc + 3 = n) (ht : (pc : Int) + off = (tgt : Int)) (kt : ¬ p → AW K tgt ls st μ) (kf : p → AW K n ls st μ) : AW K pc ls (vI (if p then 1 else 0) :: st) μ := by
  by_cases h : p
  · rw [if_pos h]
    exact aw_if_eq hO hd hn ht (inRlit _) (fun c => absurd c (by omega)) (fun _ => kf h)
  · rw [if_neg h]
    exact aw_if_eq hO hd hn ht (inRlit _) (fun _ => kt h) (fun c => absurd rfl c)
theorem aw_ifz_ne {P : LPk} {Q : Option AV → Mm → Prop} {K : KT} {cc : ByteArray} {own : String} {nL d : Nat} {ret : Option FieldType} {pc n : Nat} {ls : List (Option AV)} {st : List AV} {μ : Mm} {p : Prop} [Decidable p] {off : Int} {tgt : Nat} (hO : KOk P Q K cc own nL d ret) (hd : decode cc pc = .ok (.ifCond .ne off, 3)) (hn : pc + 3 = n) (ht : (pc : Int) + off = (tgt : Int)) (kt : p → AW K tgt ls st μ) (kf : ¬ p → AW K n ls st μ) : AW K pc ls (vI (if p then 1 else 0) :: st) μ := by
  by_cases h : p
  · rw [if_pos h]
    exact aw_if_ne hO hd hn ht (inRlit _) (fun _ => kt h) (fun c => absurd c (by omega))
  · rw [if_neg h]
    exact aw_if_ne hO hd hn ht (inRlit _) (fun c => absurd rfl c) (fun _ => kf h)
theorem z01 {p : Prop} [Decidable p] : (if p then (1 : Int) else 0) = 0 ∨ (if p then (1 : Int) else 0) = 1 := by split <;> simp
