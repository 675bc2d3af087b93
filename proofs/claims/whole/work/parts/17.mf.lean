/-! ## the reference's long and boolean fields -/
def isObj (c : LC) : Bool := match c with
  | .inr (.inr _) => true
  | _ => false
theorem layM_arr : ∀ k, k < 25 → k ≠ 0 → isObj (layM k) = false := by decide
set_option maxRecDepth 100000 in
theorem pM_draws {Q : Option AV → Mm → Prop} {K : KT} {cc : ByteArray} {nL d : Nat} {ret : Option FieldType} {pc n : Nat} {ls : List (Option AV)} {st : List AV} {μ : Mm} {a : Int} (hO : KOk PM Q K cc RX12 nL d ret) (hd : decode cc pc = .ok (.putfield 343, 3)) (hn : pc + 3 = n) (kk : AW K n ls st (mlong μ a)) : AW K pc ls (vL a :: vR 0 :: st) μ := aw_putL (f := 36) hO hd hn okX12 tyX12_ok nmX12 (by decide) (lw_t6 10 rfl rfl) rfl rfl (by decide) rfl rfl (by decide) (fun k' ci' fs' hk hne e => by have := layM_arr k' hk hne; rw [show layM k' = _ from e] at this; cases this) kk
set_option maxRecDepth 100000 in
theorem pM_hasImage {Q : Option AV → Mm → Prop} {K : KT} {cc : ByteArray} {nL d : Nat} {ret : Option FieldType} {pc n : Nat} {ls : List (Option AV)} {st : List AV} {μ : Mm} {a : Int} (hO : KOk PM Q K cc RX12 nL d ret) (hd : decode cc pc = .ok (.putfield 254, 3)) (hn : pc + 3 = n) (hz : a = 0 ∨ a = 1) (kk : AW K n ls st (mst μ 0 45 a)) : AW K pc ls (vI a :: vR 0 :: st) μ := aw_put (f := 45) hO hd hn okX12 tyX12_ok nmX12 (by decide) (lw_t6 19 rfl rfl) rfl (z_nar hz).1 (z_nar hz).2 (by decide) rfl rfl kk
