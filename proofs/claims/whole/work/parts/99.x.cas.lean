/-! ## each kind of call, on both -/
set_option maxRecDepth 100000 in
theorem lc_0 {K : LT} {μ ν : Mm} {f : Nat → Int64} {i ce sl : Nat} (hO : LOk K) (h : Rel μ ν) (hi : i + 6 ≤ K.L) (hce : ce + 1 ≤ 600000) (hsl : sl + 6 ≤ 7000000) (kk : ∀ μ' ν' f', Rel μ' ν' → LW K 1342 (LV K i) [] μ' ν' f' (ce + 1) (sl + 6)) : LW K 196 (LV K i) [] μ ν f ce sl := by
  refine lw_al 1 hO dLw_196 rfl rfl ?_
  refine lw_ld 1 hO dLw_197 dLw_198 dLw_200 dLw_201 dLw_202 rfl rfl (by omega) 0 4 rfl rfl ?_
  refine lw_ld 2 hO dLw_203 dLw_204 dLw_206 dLw_207 dLw_208 rfl rfl (by omega) 0 4 rfl rfl ?_
  refine lw_ld 3 hO dLw_209 dLw_210 dLw_212 dLw_213 dLw_214 rfl rfl (by omega) 0 4 rfl rfl ?_
  refine lw_ld 4 hO dLw_215 dLw_216 dLw_218 dLw_219 dLw_220 rfl rfl (by omega) 0 4 rfl rfl ?_
  refine lw_ld 5 hO dLw_221 dLw_222 dLw_224 dLw_225 dLw_226 rfl rfl (by omega) 0 4 rfl rfl ?_
  refine lw_callC (as := [vI (xI K (i + 1)), vI (xI K (i + 2)), vI (xI K (i + 3)), vI (xI K (i + 4)), vI (xI K (i + 5))]) (st := []) (T0 := TX11) hO dLw_227 rfl (lw_t2 97 rfl rfl) kX11_feed rfl (cP_feed h (xI K (i + 1)) (xI K (i + 2)) (xI K (i + 3)) (xI K (i + 4)) (xI K (i + 5))) rfl (Nat.le_of_ble_eq_true rfl) (by decide) (Nat.le_of_succ_le hce) (Nat.le_trans (Nat.le_add_right _ 6) hsl) (fun r m hr => ?_)
  refine lw_al 2 hO dLw_230 rfl rfl ?_
  refine lw_ld 1 hO dLw_231 dLw_232 dLw_234 dLw_235 dLw_236 rfl rfl (by omega) 0 4 rfl rfl ?_
  refine lw_ld 2 hO dLw_237 dLw_238 dLw_240 dLw_241 dLw_242 rfl rfl (by omega) 0 4 rfl rfl ?_
  refine lw_ld 3 hO dLw_243 dLw_244 dLw_246 dLw_247 dLw_248 rfl rfl (by omega) 0 4 rfl rfl ?_
  refine lw_ld 4 hO dLw_249 dLw_250 dLw_252 dLw_253 dLw_254 rfl rfl (by omega) 0 4 rfl rfl ?_
  refine lw_ld 5 hO dLw_255 dLw_256 dLw_258 dLw_259 dLw_260 rfl rfl (by omega) 0 4 rfl rfl ?_
  refine lw_callM (as := [vI (xI K (i + 1)), vI (xI K (i + 2)), vI (xI K (i + 3)), vI (xI K (i + 4)), vI (xI K (i + 5))]) (st := [.int (iI r)]) (T0 := TX12) hO dLw_261 rfl (lw_t6 118 rfl rfl) kX12_feed rfl (ctM_feed ν h.sz.1 h.sz.2 (xI K (i + 1)) (xI K (i + 2)) (xI K (i + 3)) (xI K (i + 4)) (xI K (i + 5))) rfl (Nat.le_of_ble_eq_true rfl) (by decide) (Nat.le_of_succ_le hce) (Nat.le_trans (Nat.le_add_right _ 6) hsl) (fun r' n' hr' => ?_)
  obtain ⟨e1, e2⟩ : r = r' ∧ Rel m n' := ⟨hr.1.trans hr'.1.symm, by rw [hr'.2]; exact hr.2⟩
  subst e1
  exact lw_eq hO dLw_264 rfl (lw_wid (Nat.le_succ _) (Nat.le_add_right _ 6) (kk _ _ _ e2))
set_option maxRecDepth 100000 in
theorem lc_1 {K : LT} {μ ν : Mm} {f : Nat → Int64} {i ce sl : Nat} (hO : LOk K) (h : Rel μ ν) (hi : i + 6 ≤ K.L) (hce : ce + 1 ≤ 600000) (hsl : sl + 6 ≤ 7000000) (kk : ∀ μ' ν' f', Rel μ' ν' → LW K 1342 (LV K i) [] μ' ν' f' (ce + 1) (sl + 6)) : LW K 269 (LV K i) [] μ ν f ce sl := by
  refine lw_al 1 hO dLw_269 rfl rfl ?_
  refine lw_ld 1 hO dLw_270 dLw_271 dLw_273 dLw_274 dLw_275 rfl rfl (by omega) 0 4 rfl rfl ?_
  refine lw_callC (as := [vI (xI K (i + 1))]) (st := []) (T0 := TX11) hO dLw_276 rfl (lw_t2 108 rfl rfl) kX11_end rfl (cP_end h (xI_R K (i + 1))) rfl (Nat.le_of_ble_eq_true rfl) (by decide) (Nat.le_of_succ_le hce) (Nat.le_trans (Nat.le_add_right _ 6) hsl) (fun r m hr => ?_)
  refine lw_al 2 hO dLw_279 rfl rfl ?_
  refine lw_ld 1 hO dLw_280 dLw_281 dLw_283 dLw_284 dLw_285 rfl rfl (by omega) 0 4 rfl rfl ?_
  refine lw_callM (as := [vI (xI K (i + 1))]) (st := [.int (iI r)]) (T0 := TX12) hO dLw_286 rfl (lw_t6 125 rfl rfl) kX12_end rfl (ctM_end ν h.sz.1 h.sz.2 (xI_R K (i + 1))) rfl (Nat.le_of_ble_eq_true rfl) (by decide) (Nat.le_of_succ_le hce) (Nat.le_trans (Nat.le_add_right _ 6) hsl) (fun r' n' hr' => ?_)
  obtain ⟨e1, e2⟩ : r = r' ∧ Rel m n' := ⟨hr.1.trans hr'.1.symm, by rw [hr'.2]; exact hr.2⟩
  subst e1
  exact lw_eq hO dLw_289 rfl (lw_wid (Nat.le_succ _) (Nat.le_add_right _ 6) (kk _ _ _ e2))
set_option maxRecDepth 100000 in
theorem lc_2 {K : LT} {μ ν : Mm} {f : Nat → Int64} {i ce sl : Nat} (hO : LOk K) (h : Rel μ ν) (hi : i + 6 ≤ K.L) (hce : ce + 1 ≤ 600000) (hsl : sl + 6 ≤ 7000000) (kk : ∀ μ' ν' f', Rel μ' ν' → LW K 1342 (LV K i) [] μ' ν' f' (ce + 1) (sl + 6)) : LW K 294 (LV K i) [] μ ν f ce sl := by
  obtain ⟨N, τ, hTC, hPT⟩ := h.tc
  refine lw_al 1 hO dLw_294 rfl rfl ?_
  refine lw_ld 1 hO dLw_295 dLw_296 dLw_298 dLw_299 dLw_300 rfl rfl (by omega) 0 4 rfl rfl ?_
  refine lw_callC (as := [vI (xI K (i + 1))]) (st := []) (T0 := TX11) hO dLw_301 rfl (lw_t2 112 rfl rfl) kX11_fault rfl (cP_fault h (xI_R K (i + 1))) rfl (Nat.le_of_ble_eq_true rfl) (by decide) (Nat.le_of_succ_le hce) (Nat.le_trans (Nat.le_add_right _ 6) hsl) (fun r m hr => ?_)
  refine lw_al 2 hO dLw_304 rfl rfl ?_
  refine lw_ld 1 hO dLw_305 dLw_306 dLw_308 dLw_309 dLw_310 rfl rfl (by omega) 0 4 rfl rfl ?_
  refine lw_callM (as := [vI (xI K (i + 1))]) (st := [.int (iI r)]) (T0 := TX12) hO dLw_311 rfl (lw_t6 129 rfl rfl) kX12_fault rfl (ctM_fault ν hPT h.N.2.2.2.1 (xI_R K (i + 1))) rfl (Nat.le_of_ble_eq_true rfl) (by decide) (Nat.le_of_succ_le hce) (Nat.le_trans (Nat.le_add_right _ 6) hsl) (fun r' n' hr' => ?_)
  obtain ⟨e1, e2⟩ : r = r' ∧ Rel m n' := ⟨hr.1.trans hr'.2.1.symm, h.fail hr.2 (c := 4) h.lw.2 hr'.1 hr'.2.2.1 hr'.2.2.2⟩
  subst e1
  exact lw_eq hO dLw_314 rfl (lw_wid (Nat.le_succ _) (Nat.le_add_right _ 6) (kk _ _ _ e2))
set_option maxRecDepth 100000 in
theorem lc_3 {K : LT} {μ ν : Mm} {f : Nat → Int64} {i ce sl : Nat} (hO : LOk K) (h : Rel μ ν) (hi : i + 6 ≤ K.L) (hce : ce + 1 ≤ 600000) (hsl : sl + 6 ≤ 7000000) (kk : ∀ μ' ν' f', Rel μ' ν' → LW K 1342 (LV K i) [] μ' ν' f' (ce + 1) (sl + 6)) : LW K 319 (LV K i) [] μ ν f ce sl := by
  obtain ⟨N, τ, hTC, hPT⟩ := h.tc
  obtain ⟨c0, hc0, -, hc1, -⟩ := h.L
  refine lw_al 1 hO dLw_319 rfl rfl ?_
  refine lw_ld 1 hO dLw_320 dLw_321 dLw_323 dLw_324 dLw_325 rfl rfl (by omega) 0 4 rfl rfl ?_
  refine lw_callC (as := [vI (xI K (i + 1))]) (st := []) (T0 := TX11) hO dLw_326 rfl (lw_t3 53 rfl rfl) kX11_text rfl (cP_text h hc1 (xI_R K (i + 1))) rfl (Nat.le_of_ble_eq_true rfl) (by decide) (Nat.le_of_succ_le hce) (Nat.le_trans (Nat.le_add_right _ 6) hsl) (fun r m hr => ?_)
  refine lw_al 2 hO dLw_329 rfl rfl ?_
  refine lw_ld 1 hO dLw_330 dLw_331 dLw_333 dLw_334 dLw_335 rfl rfl (by omega) 0 4 rfl rfl ?_
  refine lw_callM (as := [vI (xI K (i + 1))]) (st := [.int (iI r)]) (T0 := TX12) hO dLw_336 rfl (lw_t7 5 rfl rfl) kX12_text rfl (ctM_text ν hPT h.N.2.2.2.1 hc1 hc0 (xI_R K (i + 1))) rfl (Nat.le_of_ble_eq_true rfl) (by decide) (Nat.le_of_succ_le hce) (Nat.le_trans (Nat.le_add_right _ 6) hsl) (fun r' n' hr' => ?_)
  obtain ⟨e1, e2⟩ : r = r' ∧ Rel m n' := hr r' n' hr'
  subst e1
  exact lw_eq hO dLw_339 rfl (lw_wid (Nat.le_succ _) (Nat.le_add_right _ 6) (kk _ _ _ e2))
set_option maxRecDepth 100000 in
theorem lc_4 {K : LT} {μ ν : Mm} {f : Nat → Int64} {i ce sl : Nat} (hO : LOk K) (h : Rel μ ν) (hi : i + 6 ≤ K.L) (hce : ce + 1 ≤ 600000) (hsl : sl + 6 ≤ 7000000) (kk : ∀ μ' ν' f', Rel μ' ν' → LW K 1342 (LV K i) [] μ' ν' f' (ce + 1) (sl + 6)) : LW K 344 (LV K i) [] μ ν f ce sl := by
  refine lw_al 1 hO dLw_344 rfl rfl ?_
  refine lw_ld 1 hO dLw_345 dLw_346 dLw_348 dLw_349 dLw_350 rfl rfl (by omega) 0 4 rfl rfl ?_
  refine lw_callC (as := [vI (xI K (i + 1))]) (st := []) (T0 := TX11) hO dLw_351 rfl (lw_t3 92 rfl rfl) kX11_rule rfl (ctI_E (cP_rule h (xI_R K (i + 1)))) rfl (Nat.le_of_ble_eq_true rfl) (by decide) (Nat.le_of_succ_le hce) (Nat.le_trans (Nat.le_add_right _ 6) hsl) (fun r m hr => ?_)
  refine lw_al 2 hO dLw_354 rfl rfl ?_
  refine lw_ld 1 hO dLw_355 dLw_356 dLw_358 dLw_359 dLw_360 rfl rfl (by omega) 0 4 rfl rfl ?_
  refine lw_callM (as := [vI (xI K (i + 1))]) (st := [.int (iI r)]) (T0 := TX12) hO dLw_361 rfl (lw_t7 13 rfl rfl) kX12_rule rfl (ctI_E (ctM_rule ν h.B (xI_R K (i + 1)))) rfl (Nat.le_of_ble_eq_true rfl) (by decide) (Nat.le_of_succ_le hce) (Nat.le_trans (Nat.le_add_right _ 6) hsl) (fun r' n' hr' => ?_)
  obtain ⟨e1, e2⟩ : r = r' ∧ Rel m n' := ⟨hr.1.trans hr'.1.symm, by rw [hr.2, hr'.2]; exact h⟩
  subst e1
  exact lw_eq hO dLw_364 rfl (lw_wid (Nat.le_succ _) (Nat.le_add_right _ 6) (kk _ _ _ e2))
set_option maxRecDepth 100000 in
theorem lc_6 {K : LT} {μ ν : Mm} {f : Nat → Int64} {i ce sl : Nat} (hO : LOk K) (h : Rel μ ν) (hi : i + 6 ≤ K.L) (hce : ce + 1 ≤ 600000) (hsl : sl + 6 ≤ 7000000) (kk : ∀ μ' ν' f', Rel μ' ν' → LW K 1342 (LV K i) [] μ' ν' f' (ce + 1) (sl + 6)) : LW K 437 (LV K i) [] μ ν f ce sl := by
  refine lw_al 1 hO dLw_437 rfl rfl ?_
  refine lw_ld 1 hO dLw_438 dLw_439 dLw_441 dLw_442 dLw_443 rfl rfl (by omega) 0 4 rfl rfl ?_
  refine lw_ld 2 hO dLw_444 dLw_445 dLw_447 dLw_448 dLw_449 rfl rfl (by omega) 0 4 rfl rfl ?_
  refine lw_callC (as := [vI (xI K (i + 1)), vI (xI K (i + 2))]) (st := []) (T0 := TX11) hO dLw_450 rfl (lw_t3 104 rfl rfl) kX11_trouble rfl (ctI_E (cP_trouble h (xI_R K (i + 1)) (xI_R K (i + 2)))) rfl (Nat.le_of_ble_eq_true rfl) (by decide) (Nat.le_of_succ_le hce) (Nat.le_trans (Nat.le_add_right _ 6) hsl) (fun r m hr => ?_)
  refine lw_al 2 hO dLw_453 rfl rfl ?_
  refine lw_ld 1 hO dLw_454 dLw_455 dLw_457 dLw_458 dLw_459 rfl rfl (by omega) 0 4 rfl rfl ?_
  refine lw_ld 2 hO dLw_460 dLw_461 dLw_463 dLw_464 dLw_465 rfl rfl (by omega) 0 4 rfl rfl ?_
  refine lw_callM (as := [vI (xI K (i + 1)), vI (xI K (i + 2))]) (st := [.int (iI r)]) (T0 := TX12) hO dLw_466 rfl (lw_t7 38 rfl rfl) kX12_trouble rfl (ctI_E (ctM_trouble ν h.B (xI_R K (i + 1)) (xI_R K (i + 2)))) rfl (Nat.le_of_ble_eq_true rfl) (by decide) (Nat.le_of_succ_le hce) (Nat.le_trans (Nat.le_add_right _ 6) hsl) (fun r' n' hr' => ?_)
  obtain ⟨e1, e2⟩ : r = r' ∧ Rel m n' := ⟨hr.1.trans hr'.1.symm, by rw [hr.2, hr'.2]; exact h⟩
  subst e1
  exact lw_eq hO dLw_469 rfl (lw_wid (Nat.le_succ _) (Nat.le_add_right _ 6) (kk _ _ _ e2))
set_option maxRecDepth 100000 in
theorem lc_7 {K : LT} {μ ν : Mm} {f : Nat → Int64} {i ce sl : Nat} (hO : LOk K) (h : Rel μ ν) (hi : i + 6 ≤ K.L) (hce : ce + 1 ≤ 600000) (hsl : sl + 6 ≤ 7000000) (kk : ∀ μ' ν' f', Rel μ' ν' → LW K 1342 (LV K i) [] μ' ν' f' (ce + 1) (sl + 6)) : LW K 474 (LV K i) [] μ ν f ce sl := by
  refine lw_al 1 hO dLw_474 rfl rfl ?_
  refine lw_ld 1 hO dLw_475 dLw_476 dLw_478 dLw_479 dLw_480 rfl rfl (by omega) 0 4 rfl rfl ?_
  refine lw_callC (as := [vI (xI K (i + 1))]) (st := []) (T0 := TX11) hO dLw_481 rfl (lw_t3 124 rfl rfl) kX11_law rfl (cP_law h (xI_R K (i + 1))) rfl (Nat.le_of_ble_eq_true rfl) (by decide) (Nat.le_of_succ_le hce) (Nat.le_trans (Nat.le_add_right _ 6) hsl) (fun r m hr => ?_)
  refine lw_al 2 hO dLw_484 rfl rfl ?_
  refine lw_ld 1 hO dLw_485 dLw_486 dLw_488 dLw_489 dLw_490 rfl rfl (by omega) 0 4 rfl rfl ?_
  refine lw_callM (as := [vI (xI K (i + 1))]) (st := [.int (iI r)]) (T0 := TX12) hO dLw_491 rfl (lw_t7 42 rfl rfl) kX12_law rfl (ctM_law ν h.lw.1 h.lw.2 (xI_R K (i + 1))) rfl (Nat.le_of_ble_eq_true rfl) (by decide) (Nat.le_of_succ_le hce) (Nat.le_trans (Nat.le_add_right _ 6) hsl) (fun r' n' hr' => ?_)
  obtain ⟨e1, e2⟩ : r = r' ∧ Rel m n' := ⟨hr.1.trans hr'.1.symm, by rw [hr'.2]; exact hr.2⟩
  subst e1
  exact lw_eq hO dLw_494 rfl (lw_wid (Nat.le_succ _) (Nat.le_add_right _ 6) (kk _ _ _ e2))
set_option maxRecDepth 100000 in
theorem lc_8 {K : LT} {μ ν : Mm} {f : Nat → Int64} {i ce sl : Nat} (hO : LOk K) (h : Rel μ ν) (hi : i + 6 ≤ K.L) (hce : ce + 1 ≤ 600000) (hsl : sl + 6 ≤ 7000000) (kk : ∀ μ' ν' f', Rel μ' ν' → LW K 1342 (LV K i) [] μ' ν' f' (ce + 1) (sl + 6)) : LW K 499 (LV K i) [] μ ν f ce sl := by
  refine lw_al 1 hO dLw_499 rfl rfl ?_
  refine lw_ld 1 hO dLw_500 dLw_501 dLw_503 dLw_504 dLw_505 rfl rfl (by omega) 0 4 rfl rfl ?_
  refine lw_callC (as := [vI (xI K (i + 1))]) (st := []) (T0 := TX11) hO dLw_506 rfl (lw_t3 128 rfl rfl) kX11_walks rfl (cP_walks h (xI_R K (i + 1))) rfl (Nat.le_of_ble_eq_true rfl) (by decide) (Nat.le_of_succ_le hce) (Nat.le_trans (Nat.le_add_right _ 6) hsl) (fun r m hr => ?_)
  refine lw_al 2 hO dLw_509 rfl rfl ?_
  refine lw_ld 1 hO dLw_510 dLw_511 dLw_513 dLw_514 dLw_515 rfl rfl (by omega) 0 4 rfl rfl ?_
  refine lw_callM (as := [vI (xI K (i + 1))]) (st := [.int (iI r)]) (T0 := TX12) hO dLw_516 rfl (lw_t7 46 rfl rfl) kX12_walks rfl (ctM_walks ν h.B h.a2.1 h.a2.2 (xI_R K (i + 1))) rfl (Nat.le_of_ble_eq_true rfl) (by decide) (Nat.le_of_succ_le hce) (Nat.le_trans (Nat.le_add_right _ 6) hsl) (fun r' n' hr' => ?_)
  obtain ⟨e1, e2⟩ : r = r' ∧ Rel m n' := by
    split at hr
    · rename_i hw
      rw [if_pos hw] at hr'
      exact ⟨hr.1.trans hr'.1.symm, by rw [hr'.2]; exact hr.2⟩
    · rename_i hw
      rw [if_neg hw] at hr'
      exact ⟨hr.1.trans hr'.1.symm, by rw [hr'.2]; exact hr.2⟩
  subst e1
  exact lw_eq hO dLw_519 rfl (lw_wid (Nat.le_succ _) (Nat.le_add_right _ 6) (kk _ _ _ e2))
set_option maxRecDepth 100000 in
theorem lc_9 {K : LT} {μ ν : Mm} {f : Nat → Int64} {i ce sl : Nat} (hO : LOk K) (h : Rel μ ν) (hi : i + 6 ≤ K.L) (hce : ce + 1 ≤ 600000) (hsl : sl + 6 ≤ 7000000) (kk : ∀ μ' ν' f', Rel μ' ν' → LW K 1342 (LV K i) [] μ' ν' f' (ce + 1) (sl + 6)) : LW K 524 (LV K i) [] μ ν f ce sl := by
  refine lw_al 1 hO dLw_524 rfl rfl ?_
  refine lw_ld 1 hO dLw_525 dLw_526 dLw_528 dLw_529 dLw_530 rfl rfl (by omega) 0 4 rfl rfl ?_
  refine lw_ld 2 hO dLw_531 dLw_532 dLw_534 dLw_535 dLw_536 rfl rfl (by omega) 0 4 rfl rfl ?_
  refine lw_callC (as := [vI (xI K (i + 1)), vI (xI K (i + 2))]) (st := []) (T0 := TX11) hO dLw_537 rfl (lw_t3 166 rfl rfl) kX11_feigns rfl (cP_feigns h (xI_R K (i + 1)) (xI_R K (i + 2))) rfl (Nat.le_of_ble_eq_true rfl) (by decide) (Nat.le_of_succ_le hce) (Nat.le_trans (Nat.le_add_right _ 6) hsl) (fun r m hr => ?_)
  refine lw_al 2 hO dLw_540 rfl rfl ?_
  refine lw_ld 1 hO dLw_541 dLw_542 dLw_544 dLw_545 dLw_546 rfl rfl (by omega) 0 4 rfl rfl ?_
  refine lw_ld 2 hO dLw_547 dLw_548 dLw_550 dLw_551 dLw_552 rfl rfl (by omega) 0 4 rfl rfl ?_
  refine lw_callM (as := [vI (xI K (i + 1)), vI (xI K (i + 2))]) (st := [.int (iI r)]) (T0 := TX12) hO dLw_553 rfl (lw_t7 72 rfl rfl) kX12_feigns rfl (ctM_feigns ν h.B h.a2.1 h.a2.2 (xI_R K (i + 1)) (xI_R K (i + 2))) rfl (Nat.le_of_ble_eq_true rfl) (by decide) (Nat.le_of_succ_le hce) (Nat.le_trans (Nat.le_add_right _ 6) hsl) (fun r' n' hr' => ?_)
  obtain ⟨e1, e2⟩ : r = r' ∧ Rel m n' := by
    split at hr
    · rename_i hw
      rw [if_pos hw] at hr'
      exact ⟨hr.1.trans hr'.1.symm, by rw [hr'.2]; exact hr.2⟩
    · rename_i hw
      rw [if_neg hw] at hr'
      exact ⟨hr.1.trans hr'.1.symm, by rw [hr'.2]; exact hr.2⟩
  subst e1
  exact lw_eq hO dLw_556 rfl (lw_wid (Nat.le_succ _) (Nat.le_add_right _ 6) (kk _ _ _ e2))
set_option maxRecDepth 100000 in
theorem lc_10 {K : LT} {μ ν : Mm} {f : Nat → Int64} {i ce sl : Nat} (hO : LOk K) (h : Rel μ ν) (hi : i + 6 ≤ K.L) (hce : ce + 1 ≤ 600000) (hsl : sl + 6 ≤ 7000000) (kk : ∀ μ' ν' f', Rel μ' ν' → LW K 1342 (LV K i) [] μ' ν' f' (ce + 1) (sl + 6)) : LW K 561 (LV K i) [] μ ν f ce sl := by
  refine lw_al 1 hO dLw_561 rfl rfl ?_
  refine lw_ld 1 hO dLw_562 dLw_563 dLw_565 dLw_566 dLw_567 rfl rfl (by omega) 0 4 rfl rfl ?_
  refine lw_callC (as := [vI (xI K (i + 1))]) (st := []) (T0 := TX11) hO dLw_568 rfl (lw_t3 200 rfl rfl) kX11_leaves rfl (cP_leaves h (xI_R K (i + 1))) rfl (Nat.le_of_ble_eq_true rfl) (by decide) (Nat.le_of_succ_le hce) (Nat.le_trans (Nat.le_add_right _ 6) hsl) (fun r m hr => ?_)
  refine lw_al 2 hO dLw_571 rfl rfl ?_
  refine lw_ld 1 hO dLw_572 dLw_573 dLw_575 dLw_576 dLw_577 rfl rfl (by omega) 0 4 rfl rfl ?_
  refine lw_callM (as := [vI (xI K (i + 1))]) (st := [.int (iI r)]) (T0 := TX12) hO dLw_578 rfl (lw_t7 80 rfl rfl) kX12_leaves rfl (ctM_leaves ν h.B h.a2.1 h.a2.2 (xI_R K (i + 1))) rfl (Nat.le_of_ble_eq_true rfl) (by decide) (Nat.le_of_succ_le hce) (Nat.le_trans (Nat.le_add_right _ 6) hsl) (fun r' n' hr' => ?_)
  obtain ⟨e1, e2⟩ : r = r' ∧ Rel m n' := by
    split at hr
    · rename_i hw
      rw [if_pos hw] at hr'
      exact ⟨hr.1.trans hr'.1.symm, by rw [hr'.2]; exact hr.2⟩
    · rename_i hw
      rw [if_neg hw] at hr'
      exact ⟨hr.1.trans hr'.1.symm, by rw [hr'.2]; exact hr.2⟩
  subst e1
  exact lw_eq hO dLw_581 rfl (lw_wid (Nat.le_succ _) (Nat.le_add_right _ 6) (kk _ _ _ e2))
set_option maxRecDepth 100000 in
theorem lc_11 {K : LT} {μ ν : Mm} {f : Nat → Int64} {i ce sl : Nat} (hO : LOk K) (h : Rel μ ν) (hi : i + 6 ≤ K.L) (hce : ce + 1 ≤ 600000) (hsl : sl + 6 ≤ 7000000) (kk : ∀ μ' ν' f', Rel μ' ν' → LW K 1342 (LV K i) [] μ' ν' f' (ce + 1) (sl + 6)) : LW K 586 (LV K i) [] μ ν f ce sl := by
  refine lw_al 1 hO dLw_586 rfl rfl ?_
  refine lw_ld 1 hO dLw_587 dLw_588 dLw_590 dLw_591 dLw_592 rfl rfl (by omega) 0 4 rfl rfl ?_
  refine lw_callC (as := [vI (xI K (i + 1))]) (st := []) (T0 := TX11) hO dLw_593 rfl (lw_t3 209 rfl rfl) kX11_give rfl (cP_give h (xI_R K (i + 1))) rfl (Nat.le_of_ble_eq_true rfl) (by decide) (Nat.le_of_succ_le hce) (Nat.le_trans (Nat.le_add_right _ 6) hsl) (fun r m hr => ?_)
  refine lw_al 2 hO dLw_596 rfl rfl ?_
  refine lw_ld 1 hO dLw_597 dLw_598 dLw_600 dLw_601 dLw_602 rfl rfl (by omega) 0 4 rfl rfl ?_
  refine lw_callM (as := [vI (xI K (i + 1))]) (st := [.int (iI r)]) (T0 := TX12) hO dLw_603 rfl (lw_t7 84 rfl rfl) kX12_give rfl (ctM_give ν h.B h.a2.1 h.a2.2 (xI_R K (i + 1))) rfl (Nat.le_of_ble_eq_true rfl) (by decide) (Nat.le_of_succ_le hce) (Nat.le_trans (Nat.le_add_right _ 6) hsl) (fun r' n' hr' => ?_)
  obtain ⟨e1, e2⟩ : r = r' ∧ Rel m n' := by
    split at hr
    · rename_i hw
      rw [if_pos hw] at hr'
      exact ⟨hr.1.trans hr'.1.symm, by rw [hr'.2]; exact hr.2⟩
    · rename_i hw
      rw [if_neg hw] at hr'
      exact ⟨hr.1.trans hr'.1.symm, by rw [hr'.2]; exact hr.2⟩
  subst e1
  exact lw_eq hO dLw_606 rfl (lw_wid (Nat.le_succ _) (Nat.le_add_right _ 6) (kk _ _ _ e2))
set_option maxRecDepth 100000 in
theorem lc_12 {K : LT} {μ ν : Mm} {f : Nat → Int64} {i ce sl : Nat} (hO : LOk K) (h : Rel μ ν) (hi : i + 6 ≤ K.L) (hce : ce + 1 ≤ 600000) (hsl : sl + 6 ≤ 7000000) (kk : ∀ μ' ν' f', Rel μ' ν' → LW K 1342 (LV K i) [] μ' ν' f' (ce + 1) (sl + 6)) : LW K 611 (LV K i) [] μ ν f ce sl := by
  refine lw_al 1 hO dLw_611 rfl rfl ?_
  refine lw_ld 1 hO dLw_612 dLw_613 dLw_615 dLw_616 dLw_617 rfl rfl (by omega) 0 4 rfl rfl ?_
  refine lw_callC (as := [vI (xI K (i + 1))]) (st := []) (T0 := TX11) hO dLw_618 rfl (lw_t3 213 rfl rfl) kX11_martinmas rfl (cP_martinmas h (xI_R K (i + 1))) rfl (Nat.le_of_ble_eq_true rfl) (by decide) (Nat.le_of_succ_le hce) (Nat.le_trans (Nat.le_add_right _ 6) hsl) (fun r m hr => ?_)
  refine lw_al 2 hO dLw_621 rfl rfl ?_
  refine lw_ld 1 hO dLw_622 dLw_623 dLw_625 dLw_626 dLw_627 rfl rfl (by omega) 0 4 rfl rfl ?_
  refine lw_callM (as := [vI (xI K (i + 1))]) (st := [.int (iI r)]) (T0 := TX12) hO dLw_628 rfl (lw_t7 88 rfl rfl) kX12_martinmas rfl (ctM_martinmas ν h.MG h.a2.1 h.a2.2 (xI_R K (i + 1))) rfl (Nat.le_of_ble_eq_true rfl) (by decide) (Nat.le_of_succ_le hce) (Nat.le_trans (Nat.le_add_right _ 6) hsl) (fun r' n' hr' => ?_)
  obtain ⟨e1, e2⟩ : r = r' ∧ Rel m n' := by
    split at hr
    · rename_i hw
      rw [if_pos hw] at hr'
      exact ⟨hr.1.trans hr'.1.symm, hr.2 _ hr'.2⟩
    · rename_i hw
      rw [if_neg hw] at hr'
      exact ⟨hr.1.trans hr'.1.symm, by rw [hr'.2]; exact hr.2⟩
  subst e1
  exact lw_eq hO dLw_631 rfl (lw_wid (Nat.le_succ _) (Nat.le_add_right _ 6) (kk _ _ _ e2))
set_option maxRecDepth 100000 in
theorem lc_13 {K : LT} {μ ν : Mm} {f : Nat → Int64} {i ce sl : Nat} (hO : LOk K) (h : Rel μ ν) (hi : i + 6 ≤ K.L) (hce : ce + 1 ≤ 600000) (hsl : sl + 6 ≤ 7000000) (kk : ∀ μ' ν' f', Rel μ' ν' → LW K 1342 (LV K i) [] μ' ν' f' (ce + 1) (sl + 6)) : LW K 636 (LV K i) [] μ ν f ce sl := by
  refine lw_al 1 hO dLw_636 rfl rfl ?_
  refine lw_ld 1 hO dLw_637 dLw_638 dLw_640 dLw_641 dLw_642 rfl rfl (by omega) 0 4 rfl rfl ?_
  refine lw_callC (as := [vI (xI K (i + 1))]) (st := []) (T0 := TX11) hO dLw_643 rfl (lw_t4 80 rfl rfl) kX11_fate rfl (cP_fate h (xI_R K (i + 1))) rfl (Nat.le_of_ble_eq_true rfl) (by decide) (Nat.le_of_succ_le hce) (Nat.le_trans (Nat.le_add_right _ 6) hsl) (fun r m hr => ?_)
  refine lw_al 2 hO dLw_646 rfl rfl ?_
  refine lw_ld 1 hO dLw_647 dLw_648 dLw_650 dLw_651 dLw_652 rfl rfl (by omega) 0 4 rfl rfl ?_
  refine lw_callM (as := [vI (xI K (i + 1))]) (st := [.int (iI r)]) (T0 := TX12) hO dLw_653 rfl (lw_t7 153 rfl rfl) kX12_fate rfl (ctM_fate ν h.N.2.1.1 h.N.2.1.2 (xI_R K (i + 1))) rfl (Nat.le_of_ble_eq_true rfl) (by decide) (Nat.le_of_succ_le hce) (Nat.le_trans (Nat.le_add_right _ 6) hsl) (fun r' n' hr' => ?_)
  obtain ⟨e1, e2⟩ : r = r' ∧ Rel m n' := ⟨hr.1.trans hr'.1.symm, by rw [hr'.2]; exact hr.2⟩
  subst e1
  exact lw_eq hO dLw_656 rfl (lw_wid (Nat.le_succ _) (Nat.le_add_right _ 6) (kk _ _ _ e2))
set_option maxRecDepth 100000 in
theorem lc_15 {K : LT} {μ ν : Mm} {f : Nat → Int64} {i ce sl : Nat} (hO : LOk K) (h : Rel μ ν) (hi : i + 6 ≤ K.L) (hce : ce + 1 ≤ 600000) (hsl : sl + 6 ≤ 7000000) (kk : ∀ μ' ν' f', Rel μ' ν' → LW K 1342 (LV K i) [] μ' ν' f' (ce + 1) (sl + 6)) : LW K 730 (LV K i) [] μ ν f ce sl := by
  refine lw_al 1 hO dLw_730 rfl rfl ?_
  refine lw_ld 1 hO dLw_731 dLw_732 dLw_734 dLw_735 dLw_736 rfl rfl (by omega) 0 4 rfl rfl ?_
  refine lw_callC (as := [vI (xI K (i + 1))]) (st := []) (T0 := TX11) hO dLw_737 rfl (lw_t4 105 rfl rfl) kX11_status rfl (ctI_E (cP_status h (xI_R K (i + 1)))) rfl (Nat.le_of_ble_eq_true rfl) (by decide) (Nat.le_of_succ_le hce) (Nat.le_trans (Nat.le_add_right _ 6) hsl) (fun r m hr => ?_)
  refine lw_al 2 hO dLw_740 rfl rfl ?_
  refine lw_ld 1 hO dLw_741 dLw_742 dLw_744 dLw_745 dLw_746 rfl rfl (by omega) 0 4 rfl rfl ?_
  refine lw_callM (as := [vI (xI K (i + 1))]) (st := [.int (iI r)]) (T0 := TX12) hO dLw_747 rfl (lw_t7 171 rfl rfl) kX12_status rfl (ctI_E (ctM_status ν (xI_R K (i + 1)))) rfl (Nat.le_of_ble_eq_true rfl) (by decide) (Nat.le_of_succ_le hce) (Nat.le_trans (Nat.le_add_right _ 6) hsl) (fun r' n' hr' => ?_)
  obtain ⟨e1, e2⟩ : r = r' ∧ Rel m n' := ⟨hr.1.trans hr'.1.symm, by rw [hr.2, hr'.2]; exact h⟩
  subst e1
  exact lw_eq hO dLw_750 rfl (lw_wid (Nat.le_succ _) (Nat.le_add_right _ 6) (kk _ _ _ e2))
set_option maxRecDepth 100000 in
theorem lc_16 {K : LT} {μ ν : Mm} {f : Nat → Int64} {i ce sl : Nat} (hO : LOk K) (h : Rel μ ν) (hi : i + 6 ≤ K.L) (hce : ce + 1 ≤ 600000) (hsl : sl + 6 ≤ 7000000) (kk : ∀ μ' ν' f', Rel μ' ν' → LW K 1342 (LV K i) [] μ' ν' f' (ce + 1) (sl + 6)) : LW K 755 (LV K i) [] μ ν f ce sl := by
  refine lw_al 1 hO dLw_755 rfl rfl ?_
  refine lw_callC (as := []) (st := []) (T0 := TX11) hO dLw_756 rfl (lw_t4 109 rfl rfl) kX11_undo rfl (cP_undo h) rfl (Nat.le_of_ble_eq_true rfl) (by decide) (Nat.le_of_succ_le hce) (Nat.le_trans (Nat.le_add_right _ 6) hsl) (fun r m hr => ?_)
  refine lw_al 2 hO dLw_759 rfl rfl ?_
  refine lw_callM (as := []) (st := [.int (iI r)]) (T0 := TX12) hO dLw_760 rfl (lw_t7 175 rfl rfl) kX12_undo rfl (ctM_undo ν h.a2.1 h.a2.2) rfl (Nat.le_of_ble_eq_true rfl) (by decide) (Nat.le_of_succ_le hce) (Nat.le_trans (Nat.le_add_right _ 6) hsl) (fun r' n' hr' => ?_)
  obtain ⟨e1, e2⟩ : r = r' ∧ Rel m n' := ⟨hr.1.trans hr'.1.symm, by rw [hr'.2]; exact hr.2⟩
  subst e1
  exact lw_eq hO dLw_763 rfl (lw_wid (Nat.le_succ _) (Nat.le_add_right _ 6) (kk _ _ _ e2))
set_option maxRecDepth 100000 in
theorem lc_17 {K : LT} {μ ν : Mm} {f : Nat → Int64} {i ce sl : Nat} (hO : LOk K) (h : Rel μ ν) (hi : i + 6 ≤ K.L) (hce : ce + 1 ≤ 600000) (hsl : sl + 6 ≤ 7000000) (kk : ∀ μ' ν' f', Rel μ' ν' → LW K 1342 (LV K i) [] μ' ν' f' (ce + 1) (sl + 6)) : LW K 768 (LV K i) [] μ ν f ce sl := by
  refine lw_al 1 hO dLw_768 rfl rfl ?_
  refine lw_ld 1 hO dLw_769 dLw_770 dLw_772 dLw_773 dLw_774 rfl rfl (by omega) 0 4 rfl rfl ?_
  refine lw_ld 2 hO dLw_775 dLw_776 dLw_778 dLw_779 dLw_780 rfl rfl (by omega) 0 4 rfl rfl ?_
  refine lw_callC (as := [vI (xI K (i + 1)), vI (xI K (i + 2))]) (st := []) (T0 := TX11) hO dLw_781 rfl (lw_t4 117 rfl rfl) kX11_log rfl (ctI_E (cP_log h (xI_R K (i + 1)) (xI_R K (i + 2)))) rfl (Nat.le_of_ble_eq_true rfl) (by decide) (Nat.le_of_succ_le hce) (Nat.le_trans (Nat.le_add_right _ 6) hsl) (fun r m hr => ?_)
  refine lw_al 2 hO dLw_784 rfl rfl ?_
  refine lw_ld 1 hO dLw_785 dLw_786 dLw_788 dLw_789 dLw_790 rfl rfl (by omega) 0 4 rfl rfl ?_
  refine lw_ld 2 hO dLw_791 dLw_792 dLw_794 dLw_795 dLw_796 rfl rfl (by omega) 0 4 rfl rfl ?_
  refine lw_callM (as := [vI (xI K (i + 1)), vI (xI K (i + 2))]) (st := [.int (iI r)]) (T0 := TX12) hO dLw_797 rfl (lw_t7 179 rfl rfl) kX12_log rfl (ctI_E (ctM_log ν h.B (xI_R K (i + 1)) (xI_R K (i + 2)))) rfl (Nat.le_of_ble_eq_true rfl) (by decide) (Nat.le_of_succ_le hce) (Nat.le_trans (Nat.le_add_right _ 6) hsl) (fun r' n' hr' => ?_)
  obtain ⟨e1, e2⟩ : r = r' ∧ Rel m n' := ⟨hr.1.trans hr'.1.symm, by rw [hr.2, hr'.2]; exact h⟩
  subst e1
  exact lw_eq hO dLw_800 rfl (lw_wid (Nat.le_succ _) (Nat.le_add_right _ 6) (kk _ _ _ e2))
set_option maxRecDepth 100000 in
theorem lc_18 {K : LT} {μ ν : Mm} {f : Nat → Int64} {i ce sl : Nat} (hO : LOk K) (h : Rel μ ν) (hi : i + 6 ≤ K.L) (hce : ce + 1 ≤ 600000) (hsl : sl + 6 ≤ 7000000) (kk : ∀ μ' ν' f', Rel μ' ν' → LW K 1342 (LV K i) [] μ' ν' f' (ce + 1) (sl + 6)) : LW K 805 (LV K i) [] μ ν f ce sl := by
  refine lw_al 1 hO dLw_805 rfl rfl ?_
  refine lw_ld 1 hO dLw_806 dLw_807 dLw_809 dLw_810 dLw_811 rfl rfl (by omega) 0 4 rfl rfl ?_
  refine lw_callC (as := [vI (xI K (i + 1))]) (st := []) (T0 := TX11) hO dLw_812 rfl (lw_t4 145 rfl rfl) kX11_appeal rfl (cP_appeal h (xI_R K (i + 1))) rfl (Nat.le_of_ble_eq_true rfl) (by decide) (Nat.le_of_succ_le hce) (Nat.le_trans (Nat.le_add_right _ 6) hsl) (fun r m hr => ?_)
  refine lw_al 2 hO dLw_815 rfl rfl ?_
  refine lw_ld 1 hO dLw_816 dLw_817 dLw_819 dLw_820 dLw_821 rfl rfl (by omega) 0 4 rfl rfl ?_
  refine lw_callM (as := [vI (xI K (i + 1))]) (st := [.int (iI r)]) (T0 := TX12) hO dLw_822 rfl (lw_t7 184 rfl rfl) kX12_appeal rfl (ctM_appeal ν h.MG (xI_R K (i + 1))) rfl (Nat.le_of_ble_eq_true rfl) (by decide) (Nat.le_of_succ_le hce) (Nat.le_trans (Nat.le_add_right _ 6) hsl) (fun r' n' hr' => ?_)
  obtain ⟨e1, e2⟩ : r = r' ∧ Rel m n' := ⟨hr.1.trans hr'.1.symm, h.qf hr.2 hr'.2.toScr⟩
  subst e1
  exact lw_eq hO dLw_825 rfl (lw_wid (Nat.le_succ _) (Nat.le_add_right _ 6) (kk _ _ _ e2))
set_option maxRecDepth 100000 in
theorem lc_19 {K : LT} {μ ν : Mm} {f : Nat → Int64} {i ce sl : Nat} (hO : LOk K) (h : Rel μ ν) (hi : i + 6 ≤ K.L) (hce : ce + 1 ≤ 600000) (hsl : sl + 6 ≤ 7000000) (kk : ∀ μ' ν' f', Rel μ' ν' → LW K 1342 (LV K i) [] μ' ν' f' (ce + 1) (sl + 6)) : LW K 830 (LV K i) [] μ ν f ce sl := by
  refine lw_al 1 hO dLw_830 rfl rfl ?_
  refine lw_ld 1 hO dLw_831 dLw_832 dLw_834 dLw_835 dLw_836 rfl rfl (by omega) 0 4 rfl rfl ?_
  refine lw_callC (as := [vI (xI K (i + 1))]) (st := []) (T0 := TX11) hO dLw_837 rfl (lw_t4 150 rfl rfl) kX11_lead rfl (cP_lead h (xI_R K (i + 1))) rfl (Nat.le_of_ble_eq_true rfl) (by decide) (Nat.le_of_succ_le hce) (Nat.le_trans (Nat.le_add_right _ 6) hsl) (fun r m hr => ?_)
  refine lw_al 2 hO dLw_840 rfl rfl ?_
  refine lw_ld 1 hO dLw_841 dLw_842 dLw_844 dLw_845 dLw_846 rfl rfl (by omega) 0 4 rfl rfl ?_
  refine lw_callM (as := [vI (xI K (i + 1))]) (st := [.int (iI r)]) (T0 := TX12) hO dLw_847 rfl (lw_t7 188 rfl rfl) kX12_lead rfl (ctM_lead ν h.MG (xI_R K (i + 1))) rfl (Nat.le_of_ble_eq_true rfl) (by decide) (Nat.le_of_succ_le hce) (Nat.le_trans (Nat.le_add_right _ 6) hsl) (fun r' n' hr' => ?_)
  obtain ⟨e1, e2⟩ : r = r' ∧ Rel m n' := ⟨hr.1.trans hr'.1.symm, h.qf hr.2 hr'.2.toScr⟩
  subst e1
  exact lw_eq hO dLw_850 rfl (lw_wid (Nat.le_succ _) (Nat.le_add_right _ 6) (kk _ _ _ e2))
set_option maxRecDepth 100000 in
theorem lc_20 {K : LT} {μ ν : Mm} {f : Nat → Int64} {i ce sl : Nat} (hO : LOk K) (h : Rel μ ν) (hi : i + 6 ≤ K.L) (hce : ce + 1 ≤ 600000) (hsl : sl + 6 ≤ 7000000) (kk : ∀ μ' ν' f', Rel μ' ν' → LW K 1342 (LV K i) [] μ' ν' f' (ce + 1) (sl + 6)) : LW K 855 (LV K i) [] μ ν f ce sl := by
  refine lw_al 1 hO dLw_855 rfl rfl ?_
  refine lw_ld 1 hO dLw_856 dLw_857 dLw_859 dLw_860 dLw_861 rfl rfl (by omega) 0 4 rfl rfl ?_
  refine lw_callC (as := [vI (xI K (i + 1))]) (st := []) (T0 := TX11) hO dLw_862 rfl (lw_t4 167 rfl rfl) kX11_feigning rfl (cP_feigning h (xI_R K (i + 1))) rfl (Nat.le_of_ble_eq_true rfl) (by decide) (Nat.le_of_succ_le hce) (Nat.le_trans (Nat.le_add_right _ 6) hsl) (fun r m hr => ?_)
  refine lw_al 2 hO dLw_865 rfl rfl ?_
  refine lw_ld 1 hO dLw_866 dLw_867 dLw_869 dLw_870 dLw_871 rfl rfl (by omega) 0 4 rfl rfl ?_
  refine lw_callM (as := [vI (xI K (i + 1))]) (st := [.int (iI r)]) (T0 := TX12) hO dLw_872 rfl (lw_t7 192 rfl rfl) kX12_feigning rfl (ctM_feigning ν h.MG (xI_R K (i + 1))) rfl (Nat.le_of_ble_eq_true rfl) (by decide) (Nat.le_of_succ_le hce) (Nat.le_trans (Nat.le_add_right _ 6) hsl) (fun r' n' hr' => ?_)
  obtain ⟨e1, e2⟩ : r = r' ∧ Rel m n' := ⟨hr.1.trans hr'.1.symm, h.qf hr.2 hr'.2⟩
  subst e1
  exact lw_eq hO dLw_875 rfl (lw_wid (Nat.le_succ _) (Nat.le_add_right _ 6) (kk _ _ _ e2))
set_option maxRecDepth 100000 in
theorem lc_21 {K : LT} {μ ν : Mm} {f : Nat → Int64} {i ce sl : Nat} (hO : LOk K) (h : Rel μ ν) (hi : i + 6 ≤ K.L) (hce : ce + 1 ≤ 600000) (hsl : sl + 6 ≤ 7000000) (kk : ∀ μ' ν' f', Rel μ' ν' → LW K 1342 (LV K i) [] μ' ν' f' (ce + 1) (sl + 6)) : LW K 880 (LV K i) [] μ ν f ce sl := by
  refine lw_al 1 hO dLw_880 rfl rfl ?_
  refine lw_ld 1 hO dLw_881 dLw_882 dLw_884 dLw_885 dLw_886 rfl rfl (by omega) 0 4 rfl rfl ?_
  refine lw_ld 2 hO dLw_887 dLw_888 dLw_890 dLw_891 dLw_892 rfl rfl (by omega) 0 4 rfl rfl ?_
  refine lw_callC (as := [vI (xI K (i + 1)), vI (xI K (i + 2))]) (st := []) (T0 := TX11) hO dLw_893 rfl (lw_t4 185 rfl rfl) kX11_tour rfl (ctI_E (cP_tour h (xI_R K (i + 1)) (xI_R K (i + 2)))) rfl (Nat.le_of_ble_eq_true rfl) (by decide) (Nat.le_of_succ_le hce) (Nat.le_trans (Nat.le_add_right _ 6) hsl) (fun r m hr => ?_)
  refine lw_al 2 hO dLw_896 rfl rfl ?_
  refine lw_ld 1 hO dLw_897 dLw_898 dLw_900 dLw_901 dLw_902 rfl rfl (by omega) 0 4 rfl rfl ?_
  refine lw_ld 2 hO dLw_903 dLw_904 dLw_906 dLw_907 dLw_908 rfl rfl (by omega) 0 4 rfl rfl ?_
  refine lw_callM (as := [vI (xI K (i + 1)), vI (xI K (i + 2))]) (st := [.int (iI r)]) (T0 := TX12) hO dLw_909 rfl (lw_t7 212 rfl rfl) kX12_tour rfl (ctI_E (ctM_tour ν h.B (xI_R K (i + 1)) (xI_R K (i + 2)))) rfl (Nat.le_of_ble_eq_true rfl) (by decide) (Nat.le_of_succ_le hce) (Nat.le_trans (Nat.le_add_right _ 6) hsl) (fun r' n' hr' => ?_)
  obtain ⟨e1, e2⟩ : r = r' ∧ Rel m n' := ⟨hr.1.trans hr'.1.symm, by rw [hr.2, hr'.2]; exact h⟩
  subst e1
  exact lw_eq hO dLw_912 rfl (lw_wid (Nat.le_succ _) (Nat.le_add_right _ 6) (kk _ _ _ e2))
set_option maxRecDepth 100000 in
theorem lc_23 {K : LT} {μ ν : Mm} {f : Nat → Int64} {i ce sl : Nat} (hO : LOk K) (h : Rel μ ν) (hi : i + 6 ≤ K.L) (hce : ce + 1 ≤ 600000) (hsl : sl + 6 ≤ 7000000) (kk : ∀ μ' ν' f', Rel μ' ν' → LW K 1342 (LV K i) [] μ' ν' f' (ce + 1) (sl + 6)) : LW K 982 (LV K i) [] μ ν f ce sl := by
  refine lw_al 1 hO dLw_982 rfl rfl ?_
  refine lw_ld 1 hO dLw_983 dLw_984 dLw_986 dLw_987 dLw_988 rfl rfl (by omega) 0 4 rfl rfl ?_
  refine lw_callC (as := [vI (xI K (i + 1))]) (st := []) (T0 := TX11) hO dLw_989 rfl (lw_t4 234 rfl rfl) kX11_likings rfl (ctI_E (cP_likings h (xI_R K (i + 1)))) rfl (Nat.le_of_ble_eq_true rfl) (by decide) (Nat.le_of_succ_le hce) (Nat.le_trans (Nat.le_add_right _ 6) hsl) (fun r m hr => ?_)
  refine lw_al 2 hO dLw_992 rfl rfl ?_
  refine lw_ld 1 hO dLw_993 dLw_994 dLw_996 dLw_997 dLw_998 rfl rfl (by omega) 0 4 rfl rfl ?_
  refine lw_callM (as := [vI (xI K (i + 1))]) (st := [.int (iI r)]) (T0 := TX12) hO dLw_999 rfl (lw_t7 225 rfl rfl) kX12_likings rfl (ctI_E (ctM_likings ν h.B h.G.1 (xI_R K (i + 1)))) rfl (Nat.le_of_ble_eq_true rfl) (by decide) (Nat.le_of_succ_le hce) (Nat.le_trans (Nat.le_add_right _ 6) hsl) (fun r' n' hr' => ?_)
  obtain ⟨e1, e2⟩ : r = r' ∧ Rel m n' := ⟨hr.1.trans hr'.1.symm, by rw [hr.2, hr'.2]; exact h⟩
  subst e1
  exact lw_eq hO dLw_1002 rfl (lw_wid (Nat.le_succ _) (Nat.le_add_right _ 6) (kk _ _ _ e2))
set_option maxRecDepth 100000 in
theorem lc_24 {K : LT} {μ ν : Mm} {f : Nat → Int64} {i ce sl : Nat} (hO : LOk K) (h : Rel μ ν) (hi : i + 6 ≤ K.L) (hce : ce + 1 ≤ 600000) (hsl : sl + 6 ≤ 7000000) (kk : ∀ μ' ν' f', Rel μ' ν' → LW K 1342 (LV K i) [] μ' ν' f' (ce + 1) (sl + 6)) : LW K 1007 (LV K i) [] μ ν f ce sl := by
  refine lw_al 1 hO dLw_1007 rfl rfl ?_
  refine lw_callC (as := []) (st := []) (T0 := TX11) hO dLw_1008 rfl (lw_t4 238 rfl rfl) kX11_show rfl (cP_show h) rfl (Nat.le_of_ble_eq_true rfl) (by decide) (Nat.le_of_succ_le hce) (Nat.le_trans (Nat.le_add_right _ 6) hsl) (fun r m hr => ?_)
  refine lw_al 2 hO dLw_1011 rfl rfl ?_
  refine lw_callM (as := []) (st := [.int (iI r)]) (T0 := TX12) hO dLw_1012 rfl (lw_t8 1 rfl rfl) kX12_show rfl (ctI_E (ctM_show ν h.B h.G.1)) rfl (Nat.le_of_ble_eq_true rfl) (by decide) (Nat.le_of_succ_le hce) (Nat.le_trans (Nat.le_add_right _ 6) hsl) (fun r' n' hr' => ?_)
  obtain ⟨e1, e2⟩ : r = r' ∧ Rel m n' := ⟨hr.1.trans hr'.1.symm, by rw [hr'.2]; exact h.qf hr.2 Scr.rf⟩
  subst e1
  exact lw_eq hO dLw_1015 rfl (lw_wid (Nat.le_succ _) (Nat.le_add_right _ 6) (kk _ _ _ e2))
set_option maxRecDepth 100000 in
theorem lc_25 {K : LT} {μ ν : Mm} {f : Nat → Int64} {i ce sl : Nat} (hO : LOk K) (h : Rel μ ν) (hi : i + 6 ≤ K.L) (hce : ce + 1 ≤ 600000) (hsl : sl + 6 ≤ 7000000) (kk : ∀ μ' ν' f', Rel μ' ν' → LW K 1342 (LV K i) [] μ' ν' f' (ce + 1) (sl + 6)) : LW K 1020 (LV K i) [] μ ν f ce sl := by
  refine lw_al 1 hO dLw_1020 rfl rfl ?_
  refine lw_ld 1 hO dLw_1021 dLw_1022 dLw_1024 dLw_1025 dLw_1026 rfl rfl (by omega) 0 4 rfl rfl ?_
  refine lw_callC (as := [vI (xI K (i + 1))]) (st := []) (T0 := TX11) hO dLw_1027 rfl (lw_t5 12 rfl rfl) kX11_work rfl (cP_work h (xI_R K (i + 1))) rfl (Nat.le_of_ble_eq_true rfl) (by decide) (Nat.le_of_succ_le hce) (Nat.le_trans (Nat.le_add_right _ 6) hsl) (fun r m hr => ?_)
  refine lw_al 2 hO dLw_1030 rfl rfl ?_
  refine lw_ld 1 hO dLw_1031 dLw_1032 dLw_1034 dLw_1035 dLw_1036 rfl rfl (by omega) 0 4 rfl rfl ?_
  refine lw_callM (as := [vI (xI K (i + 1))]) (st := [.int (iI r)]) (T0 := TX12) hO dLw_1037 rfl (lw_t8 10 rfl rfl) kX12_work rfl (ctM_work ν h.B (xI_R K (i + 1))) rfl (Nat.le_of_ble_eq_true rfl) (by decide) (Nat.le_of_succ_le hce) (Nat.le_trans (Nat.le_add_right _ 6) hsl) (fun r' n' hr' => ?_)
  obtain ⟨e1, e2⟩ : r = r' ∧ Rel m n' := ⟨hr.1.trans hr'.1.symm, h.qf hr.2 hr'.2⟩
  subst e1
  exact lw_eq hO dLw_1040 rfl (lw_wid (Nat.le_succ _) (Nat.le_add_right _ 6) (kk _ _ _ e2))
set_option maxRecDepth 100000 in
theorem lc_26 {K : LT} {μ ν : Mm} {f : Nat → Int64} {i ce sl : Nat} (hO : LOk K) (h : Rel μ ν) (hi : i + 6 ≤ K.L) (hce : ce + 1 ≤ 600000) (hsl : sl + 6 ≤ 7000000) (kk : ∀ μ' ν' f', Rel μ' ν' → LW K 1342 (LV K i) [] μ' ν' f' (ce + 1) (sl + 6)) : LW K 1045 (LV K i) [] μ ν f ce sl := by
  classical
  refine lw_al 1 hO dLw_1045 rfl rfl ?_
  refine lw_ld 1 hO dLw_1046 dLw_1047 dLw_1049 dLw_1050 dLw_1051 rfl rfl (by omega) 0 4 rfl rfl ?_
  refine lw_ld 2 hO dLw_1052 dLw_1053 dLw_1055 dLw_1056 dLw_1057 rfl rfl (by omega) 0 4 rfl rfl ?_
  refine lw_ld 3 hO dLw_1058 dLw_1059 dLw_1061 dLw_1062 dLw_1063 rfl rfl (by omega) 0 4 rfl rfl ?_
  refine lw_ld 4 hO dLw_1064 dLw_1065 dLw_1067 dLw_1068 dLw_1069 rfl rfl (by omega) 0 4 rfl rfl ?_
  refine lw_ld 5 hO dLw_1070 dLw_1071 dLw_1073 dLw_1074 dLw_1075 rfl rfl (by omega) 0 4 rfl rfl ?_
  refine lw_callC (as := [vI (xI K (i + 1)), vI (xI K (i + 2)), vI (xI K (i + 3)), vI (xI K (i + 4)), vI (xI K (i + 5))]) (st := []) (T0 := TX11) hO dLw_1076 rfl (lw_t5 29 rfl rfl) kX11_game rfl (cP_game h (xI_R K (i + 1)) (xI_R K (i + 2)) (xI_R K (i + 3)) (xI_R K (i + 4)) (xI_R K (i + 5))) rfl (Nat.le_of_ble_eq_true rfl) (by decide) (Nat.le_of_succ_le hce) (Nat.le_trans (Nat.le_add_right _ 6) hsl) (fun r m hr => ?_)
  refine lw_al 2 hO dLw_1079 rfl rfl ?_
  refine lw_ld 1 hO dLw_1080 dLw_1081 dLw_1083 dLw_1084 dLw_1085 rfl rfl (by omega) 0 4 rfl rfl ?_
  refine lw_ld 2 hO dLw_1086 dLw_1087 dLw_1089 dLw_1090 dLw_1091 rfl rfl (by omega) 0 4 rfl rfl ?_
  refine lw_ld 3 hO dLw_1092 dLw_1093 dLw_1095 dLw_1096 dLw_1097 rfl rfl (by omega) 0 4 rfl rfl ?_
  refine lw_ld 4 hO dLw_1098 dLw_1099 dLw_1101 dLw_1102 dLw_1103 rfl rfl (by omega) 0 4 rfl rfl ?_
  refine lw_ld 5 hO dLw_1104 dLw_1105 dLw_1107 dLw_1108 dLw_1109 rfl rfl (by omega) 0 4 rfl rfl ?_
  refine lw_callM (as := [vI (xI K (i + 1)), vI (xI K (i + 2)), vI (xI K (i + 3)), vI (xI K (i + 4)), vI (xI K (i + 5))]) (st := [.int (iI r)]) (T0 := TX12) hO dLw_1110 rfl (lw_t8 18 rfl rfl) kX12_game rfl (ctM_game ν h.MG (xI_R K (i + 1)) (xI_R K (i + 2)) (xI_R K (i + 3)) (xI_R K (i + 4)) (xI_R K (i + 5))) rfl (Nat.le_of_ble_eq_true rfl) (by decide) (Nat.le_of_succ_le hce) (Nat.le_trans (Nat.le_add_right _ 6) hsl) (fun r' n' hr' => ?_)
  obtain ⟨e1, e2⟩ : r = r' ∧ Rel m n' := ⟨hr.1.trans hr'.1.symm, h.qf hr.2 hr'.2⟩
  subst e1
  exact lw_eq hO dLw_1113 rfl (lw_wid (Nat.le_succ _) (Nat.le_add_right _ 6) (kk _ _ _ e2))
set_option maxRecDepth 100000 in
theorem lc_27 {K : LT} {μ ν : Mm} {f : Nat → Int64} {i ce sl : Nat} (hO : LOk K) (h : Rel μ ν) (hi : i + 6 ≤ K.L) (hce : ce + 1 ≤ 600000) (hsl : sl + 6 ≤ 7000000) (kk : ∀ μ' ν' f', Rel μ' ν' → LW K 1342 (LV K i) [] μ' ν' f' (ce + 1) (sl + 6)) : LW K 1118 (LV K i) [] μ ν f ce sl := by
  classical
  refine lw_al 1 hO dLw_1118 rfl rfl ?_
  refine lw_ld 1 hO dLw_1119 dLw_1120 dLw_1122 dLw_1123 dLw_1124 rfl rfl (by omega) 0 4 rfl rfl ?_
  refine lw_ld 2 hO dLw_1125 dLw_1126 dLw_1128 dLw_1129 dLw_1130 rfl rfl (by omega) 0 4 rfl rfl ?_
  refine lw_ld 3 hO dLw_1131 dLw_1132 dLw_1134 dLw_1135 dLw_1136 rfl rfl (by omega) 0 4 rfl rfl ?_
  refine lw_callC (as := [vI (xI K (i + 1)), vI (xI K (i + 2)), vI (xI K (i + 3))]) (st := []) (T0 := TX11) hO dLw_1137 rfl (lw_t5 45 rfl rfl) kX11_rests rfl (cP_rests h (xI_R K (i + 1)) (xI_R K (i + 2)) (xI_R K (i + 3))) rfl (Nat.le_of_ble_eq_true rfl) (by decide) (Nat.le_of_succ_le hce) (Nat.le_trans (Nat.le_add_right _ 6) hsl) (fun r m hr => ?_)
  refine lw_al 2 hO dLw_1140 rfl rfl ?_
  refine lw_ld 1 hO dLw_1141 dLw_1142 dLw_1144 dLw_1145 dLw_1146 rfl rfl (by omega) 0 4 rfl rfl ?_
  refine lw_ld 2 hO dLw_1147 dLw_1148 dLw_1150 dLw_1151 dLw_1152 rfl rfl (by omega) 0 4 rfl rfl ?_
  refine lw_ld 3 hO dLw_1153 dLw_1154 dLw_1156 dLw_1157 dLw_1158 rfl rfl (by omega) 0 4 rfl rfl ?_
  refine lw_callM (as := [vI (xI K (i + 1)), vI (xI K (i + 2)), vI (xI K (i + 3))]) (st := [.int (iI r)]) (T0 := TX12) hO dLw_1159 rfl (lw_t8 30 rfl rfl) kX12_rests rfl (ctM_rests ν h.MG (xI_R K (i + 1)) (xI_R K (i + 2)) (xI_R K (i + 3))) rfl (Nat.le_of_ble_eq_true rfl) (by decide) (Nat.le_of_succ_le hce) (Nat.le_trans (Nat.le_add_right _ 6) hsl) (fun r' n' hr' => ?_)
  obtain ⟨e1, e2⟩ : r = r' ∧ Rel m n' := ⟨hr.1.trans hr'.1.symm, h.qf hr.2 hr'.2⟩
  subst e1
  exact lw_eq hO dLw_1162 rfl (lw_wid (Nat.le_succ _) (Nat.le_add_right _ 6) (kk _ _ _ e2))
set_option maxRecDepth 100000 in
theorem lc_28 {K : LT} {μ ν : Mm} {f : Nat → Int64} {i ce sl : Nat} (hO : LOk K) (h : Rel μ ν) (hi : i + 6 ≤ K.L) (hce : ce + 1 ≤ 600000) (hsl : sl + 6 ≤ 7000000) (kk : ∀ μ' ν' f', Rel μ' ν' → LW K 1342 (LV K i) [] μ' ν' f' (ce + 1) (sl + 6)) : LW K 1167 (LV K i) [] μ ν f ce sl := by
  refine lw_al 1 hO dLw_1167 rfl rfl ?_
  refine lw_ld 1 hO dLw_1168 dLw_1169 dLw_1171 dLw_1172 dLw_1173 rfl rfl (by omega) 0 4 rfl rfl ?_
  refine lw_ld 2 hO dLw_1174 dLw_1175 dLw_1177 dLw_1178 dLw_1179 rfl rfl (by omega) 0 4 rfl rfl ?_
  refine lw_callC (as := [vI (xI K (i + 1)), vI (xI K (i + 2))]) (st := []) (T0 := TX11) hO dLw_1180 rfl (lw_t5 54 rfl rfl) kX11_odds rfl (cP_odds h (xI_R K (i + 1)) (xI_R K (i + 2))) rfl (Nat.le_of_ble_eq_true rfl) (by decide) (Nat.le_of_succ_le hce) (Nat.le_trans (Nat.le_add_right _ 6) hsl) (fun r m hr => ?_)
  refine lw_al 2 hO dLw_1183 rfl rfl ?_
  refine lw_ld 1 hO dLw_1184 dLw_1185 dLw_1187 dLw_1188 dLw_1189 rfl rfl (by omega) 0 4 rfl rfl ?_
  refine lw_ld 2 hO dLw_1190 dLw_1191 dLw_1193 dLw_1194 dLw_1195 rfl rfl (by omega) 0 4 rfl rfl ?_
  refine lw_callM (as := [vI (xI K (i + 1)), vI (xI K (i + 2))]) (st := [.int (iI r)]) (T0 := TX12) hO dLw_1196 rfl (lw_t8 38 rfl rfl) kX12_odds rfl (ctM_odds ν h.MG (xI_R K (i + 1)) (xI_R K (i + 2))) rfl (Nat.le_of_ble_eq_true rfl) (by decide) (Nat.le_of_succ_le hce) (Nat.le_trans (Nat.le_add_right _ 6) hsl) (fun r' n' hr' => ?_)
  obtain ⟨e1, e2⟩ : r = r' ∧ Rel m n' := ⟨hr.1.trans hr'.1.symm, h.qf hr.2 hr'.2⟩
  subst e1
  exact lw_eq hO dLw_1199 rfl (lw_wid (Nat.le_succ _) (Nat.le_add_right _ 6) (kk _ _ _ e2))
set_option maxRecDepth 100000 in
theorem lc_29 {K : LT} {μ ν : Mm} {f : Nat → Int64} {i ce sl : Nat} (hO : LOk K) (h : Rel μ ν) (hi : i + 6 ≤ K.L) (hce : ce + 1 ≤ 600000) (hsl : sl + 6 ≤ 7000000) (kk : ∀ μ' ν' f', Rel μ' ν' → LW K 1342 (LV K i) [] μ' ν' f' (ce + 1) (sl + 6)) : LW K 1204 (LV K i) [] μ ν f ce sl := by
  refine lw_al 1 hO dLw_1204 rfl rfl ?_
  refine lw_ld 1 hO dLw_1205 dLw_1206 dLw_1208 dLw_1209 dLw_1210 rfl rfl (by omega) 0 4 rfl rfl ?_
  refine lw_callC (as := [vI (xI K (i + 1))]) (st := []) (T0 := TX11) hO dLw_1211 rfl (lw_t5 73 rfl rfl) kX11_first rfl (cP_first h (xI_R K (i + 1))) rfl (Nat.le_of_ble_eq_true rfl) (by decide) (Nat.le_of_succ_le hce) (Nat.le_trans (Nat.le_add_right _ 6) hsl) (fun r m hr => ?_)
  refine lw_al 2 hO dLw_1214 rfl rfl ?_
  refine lw_ld 1 hO dLw_1215 dLw_1216 dLw_1218 dLw_1219 dLw_1220 rfl rfl (by omega) 0 4 rfl rfl ?_
  refine lw_callM (as := [vI (xI K (i + 1))]) (st := [.int (iI r)]) (T0 := TX12) hO dLw_1221 rfl (lw_t8 48 rfl rfl) kX12_first rfl (ctM_first ν h.MG h.S.2.2.2.1 (xI_R K (i + 1))) rfl (Nat.le_of_ble_eq_true rfl) (by decide) (Nat.le_of_succ_le hce) (Nat.le_trans (Nat.le_add_right _ 6) hsl) (fun r' n' hr' => ?_)
  obtain ⟨e1, e2⟩ : r = r' ∧ Rel m n' := ⟨hr.1.trans hr'.1.symm, h.qf hr.2 hr'.2⟩
  subst e1
  exact lw_eq hO dLw_1224 rfl (lw_wid (Nat.le_succ _) (Nat.le_add_right _ 6) (kk _ _ _ e2))
set_option maxRecDepth 100000 in
theorem lc_30 {K : LT} {μ ν : Mm} {f : Nat → Int64} {i ce sl : Nat} (hO : LOk K) (h : Rel μ ν) (hi : i + 6 ≤ K.L) (hce : ce + 1 ≤ 600000) (hsl : sl + 6 ≤ 7000000) (kk : ∀ μ' ν' f', Rel μ' ν' → LW K 1342 (LV K i) [] μ' ν' f' (ce + 1) (sl + 6)) : LW K 1229 (LV K i) [] μ ν f ce sl := by
  refine lw_al 1 hO dLw_1229 rfl rfl ?_
  refine lw_ld 1 hO dLw_1230 dLw_1231 dLw_1233 dLw_1234 dLw_1235 rfl rfl (by omega) 0 4 rfl rfl ?_
  refine lw_ld 2 hO dLw_1236 dLw_1237 dLw_1239 dLw_1240 dLw_1241 rfl rfl (by omega) 0 4 rfl rfl ?_
  refine lw_callC (as := [vI (xI K (i + 1)), vI (xI K (i + 2))]) (st := []) (T0 := TX11) hO dLw_1242 rfl (lw_t5 84 rfl rfl) kX11_shares rfl (ctI_E (cP_shares h (xI_R K (i + 1)) (xI_R K (i + 2)))) rfl (Nat.le_of_ble_eq_true rfl) (by decide) (Nat.le_of_succ_le hce) (Nat.le_trans (Nat.le_add_right _ 6) hsl) (fun r m hr => ?_)
  refine lw_al 2 hO dLw_1245 rfl rfl ?_
  refine lw_ld 1 hO dLw_1246 dLw_1247 dLw_1249 dLw_1250 dLw_1251 rfl rfl (by omega) 0 4 rfl rfl ?_
  refine lw_ld 2 hO dLw_1252 dLw_1253 dLw_1255 dLw_1256 dLw_1257 rfl rfl (by omega) 0 4 rfl rfl ?_
  refine lw_callM (as := [vI (xI K (i + 1)), vI (xI K (i + 2))]) (st := [.int (iI r)]) (T0 := TX12) hO dLw_1258 rfl (lw_t8 52 rfl rfl) kX12_shares rfl (ctI_E (ctM_shares ν h.B (xI_R K (i + 1)) (xI_R K (i + 2)))) rfl (Nat.le_of_ble_eq_true rfl) (by decide) (Nat.le_of_succ_le hce) (Nat.le_trans (Nat.le_add_right _ 6) hsl) (fun r' n' hr' => ?_)
  obtain ⟨e1, e2⟩ : r = r' ∧ Rel m n' := ⟨hr.1.trans hr'.1.symm, by rw [hr.2, hr'.2]; exact h⟩
  subst e1
  exact lw_eq hO dLw_1261 rfl (lw_wid (Nat.le_succ _) (Nat.le_add_right _ 6) (kk _ _ _ e2))
set_option maxRecDepth 100000 in
theorem lc_31 {K : LT} {μ ν : Mm} {f : Nat → Int64} {i ce sl : Nat} (hO : LOk K) (h : Rel μ ν) (hi : i + 6 ≤ K.L) (hce : ce + 1 ≤ 600000) (hsl : sl + 6 ≤ 7000000) (kk : ∀ μ' ν' f', Rel μ' ν' → LW K 1342 (LV K i) [] μ' ν' f' (ce + 1) (sl + 6)) : LW K 1266 (LV K i) [] μ ν f ce sl := by
  refine lw_al 1 hO dLw_1266 rfl rfl ?_
  refine lw_ld 1 hO dLw_1267 dLw_1268 dLw_1270 dLw_1271 dLw_1272 rfl rfl (by omega) 0 4 rfl rfl ?_
  refine lw_callC (as := [vI (xI K (i + 1))]) (st := []) (T0 := TX11) hO dLw_1273 rfl (lw_t5 89 rfl rfl) kX11_most rfl (cP_most h (xI_R K (i + 1))) rfl (Nat.le_of_ble_eq_true rfl) (by decide) (Nat.le_of_succ_le hce) (Nat.le_trans (Nat.le_add_right _ 6) hsl) (fun r m hr => ?_)
  refine lw_al 2 hO dLw_1276 rfl rfl ?_
  refine lw_ld 1 hO dLw_1277 dLw_1278 dLw_1280 dLw_1281 dLw_1282 rfl rfl (by omega) 0 4 rfl rfl ?_
  refine lw_callM (as := [vI (xI K (i + 1))]) (st := [.int (iI r)]) (T0 := TX12) hO dLw_1283 rfl (lw_t8 56 rfl rfl) kX12_most rfl (ctM_most ν h.MG (xI_R K (i + 1))) rfl (Nat.le_of_ble_eq_true rfl) (by decide) (Nat.le_of_succ_le hce) (Nat.le_trans (Nat.le_add_right _ 6) hsl) (fun r' n' hr' => ?_)
  obtain ⟨e1, e2⟩ : r = r' ∧ Rel m n' := ⟨hr.1.trans hr'.1.symm, h.qf hr.2 hr'.2⟩
  subst e1
  exact lw_eq hO dLw_1286 rfl (lw_wid (Nat.le_succ _) (Nat.le_add_right _ 6) (kk _ _ _ e2))
set_option maxRecDepth 100000 in
theorem lc_32 {K : LT} {μ ν : Mm} {f : Nat → Int64} {i ce sl : Nat} (hO : LOk K) (h : Rel μ ν) (hi : i + 6 ≤ K.L) (hce : ce + 1 ≤ 600000) (hsl : sl + 6 ≤ 7000000) (kk : ∀ μ' ν' f', Rel μ' ν' → LW K 1342 (LV K i) [] μ' ν' f' (ce + 1) (sl + 6)) : LW K 1291 (LV K i) [] μ ν f ce sl := by
  refine lw_al 1 hO dLw_1291 rfl rfl ?_
  refine lw_callC (as := []) (st := []) (T0 := TX11) hO dLw_1292 rfl (lw_t5 120 rfl rfl) kX11_image rfl (cP_image h) rfl (Nat.le_of_ble_eq_true rfl) (by decide) (Nat.le_of_succ_le hce) (Nat.le_trans (Nat.le_add_right _ 6) hsl) (fun r m hr => ?_)
  refine lw_al 2 hO dLw_1295 rfl rfl ?_
  refine lw_callM (as := []) (st := [.int (iI r)]) (T0 := TX12) hO dLw_1296 rfl (lw_t8 76 rfl rfl) kX12_image rfl (ctM_image ν h.B) rfl (Nat.le_of_ble_eq_true rfl) (by decide) (Nat.le_of_succ_le hce) (Nat.le_trans (Nat.le_add_right _ 6) hsl) (fun r' n' hr' => ?_)
  obtain ⟨e1, e2⟩ : r = r' ∧ Rel m n' := ⟨hr.1.trans hr'.1.symm, by rw [hr'.2]; exact hr.2⟩
  subst e1
  exact lw_eq hO dLw_1299 rfl (lw_wid (Nat.le_succ _) (Nat.le_add_right _ 6) (kk _ _ _ e2))
set_option maxRecDepth 100000 in
theorem lc_33 {K : LT} {μ ν : Mm} {f : Nat → Int64} {i ce sl : Nat} (hO : LOk K) (h : Rel μ ν) (hi : i + 6 ≤ K.L) (hce : ce + 1 ≤ 600000) (hsl : sl + 6 ≤ 7000000) (kk : ∀ μ' ν' f', Rel μ' ν' → LW K 1342 (LV K i) [] μ' ν' f' (ce + 1) (sl + 6)) : LW K 1304 (LV K i) [] μ ν f ce sl := by
  refine lw_al 1 hO dLw_1304 rfl rfl ?_
  refine lw_callC (as := []) (st := []) (T0 := TX11) hO dLw_1305 rfl (lw_t5 125 rfl rfl) kX11_back rfl (cP_back h) rfl (Nat.le_of_ble_eq_true rfl) (by decide) (Nat.le_of_succ_le hce) (Nat.le_trans (Nat.le_add_right _ 6) hsl) (fun r m hr => ?_)
  refine lw_al 2 hO dLw_1308 rfl rfl ?_
  refine lw_callM (as := []) (st := [.int (iI r)]) (T0 := TX12) hO dLw_1309 rfl (lw_t8 80 rfl rfl) kX12_back rfl (ctM_back ν h.im.1 h.im.2) rfl (Nat.le_of_ble_eq_true rfl) (by decide) (Nat.le_of_succ_le hce) (Nat.le_trans (Nat.le_add_right _ 6) hsl) (fun r' n' hr' => ?_)
  obtain ⟨e1, e2⟩ : r = r' ∧ Rel m n' := ⟨hr.1.trans hr'.1.symm, by rw [hr'.2]; exact hr.2⟩
  subst e1
  exact lw_eq hO dLw_1312 rfl (lw_wid (Nat.le_succ _) (Nat.le_add_right _ 6) (kk _ _ _ e2))
set_option maxRecDepth 100000 in
theorem lc_34 {K : LT} {μ ν : Mm} {f : Nat → Int64} {i ce sl : Nat} (hO : LOk K) (h : Rel μ ν) (hi : i + 6 ≤ K.L) (hce : ce + 1 ≤ 600000) (hsl : sl + 6 ≤ 7000000) (kk : ∀ μ' ν' f', Rel μ' ν' → LW K 1342 (LV K i) [] μ' ν' f' (ce + 1) (sl + 6)) : LW K 1317 (LV K i) [] μ ν f ce sl := by
  refine lw_al 1 hO dLw_1317 rfl rfl ?_
  refine lw_ld 1 hO dLw_1318 dLw_1319 dLw_1321 dLw_1322 dLw_1323 rfl rfl (by omega) 0 4 rfl rfl ?_
  refine lw_callC (as := [vI (xI K (i + 1))]) (st := []) (T0 := TX11) hO dLw_1324 rfl (lw_t5 129 rfl rfl) kX11_count rfl (ctI_E (cP_count h (xI_R K (i + 1)))) rfl (Nat.le_of_ble_eq_true rfl) (by decide) (Nat.le_of_succ_le hce) (Nat.le_trans (Nat.le_add_right _ 6) hsl) (fun r m hr => ?_)
  refine lw_al 2 hO dLw_1327 rfl rfl ?_
  refine lw_ld 1 hO dLw_1328 dLw_1329 dLw_1331 dLw_1332 dLw_1333 rfl rfl (by omega) 0 4 rfl rfl ?_
  refine lw_callM (as := [vI (xI K (i + 1))]) (st := [.int (iI r)]) (T0 := TX12) hO dLw_1334 rfl (lw_t8 84 rfl rfl) kX12_count rfl (ctI_E (ctM_count ν (xI_R K (i + 1)))) rfl (Nat.le_of_ble_eq_true rfl) (by decide) (Nat.le_of_succ_le hce) (Nat.le_trans (Nat.le_add_right _ 6) hsl) (fun r' n' hr' => ?_)
  obtain ⟨e1, e2⟩ : r = r' ∧ Rel m n' := ⟨hr.1.trans hr'.1.symm, by rw [hr.2, hr'.2]; exact h⟩
  subst e1
  exact lw_eq hO dLw_1337 rfl (lw_wid (Nat.le_succ _) (Nat.le_add_right _ 6) (kk _ _ _ e2))
set_option maxRecDepth 100000 in
theorem lc_22 {K : LT} {μ ν : Mm} {f : Nat → Int64} {i ce sl : Nat} (hO : LOk K) (h : Rel μ ν) (hi : i + 6 ≤ K.L) (hce : ce + 1 ≤ 600000) (hsl : sl + 6 ≤ 7000000) (kk : ∀ μ' ν' f', Rel μ' ν' → LW K 1342 (LV K i) [] μ' ν' f' (ce + 1) (sl + 6)) : LW K 917 (LV K i) [] μ ν f ce sl := by
  by_cases hz : (xI K (i + 3)) = 0
  · refine lw_al 1 hO dLw_917 rfl rfl ?_
    refine lw_ld 1 hO dLw_918 dLw_919 dLw_921 dLw_922 dLw_923 rfl rfl (by omega) 0 4 rfl rfl ?_
    refine lw_ld 2 hO dLw_924 dLw_925 dLw_927 dLw_928 dLw_929 rfl rfl (by omega) 0 4 rfl rfl ?_
    refine lw_ld 3 hO dLw_930 dLw_931 dLw_933 dLw_934 dLw_935 rfl rfl (by omega) 0 4 rfl rfl ?_
    refine lw_ceqT (tgt := 943) hO dLw_936 rfl (by rw [hz]; rfl) ?_
    refine lw_ic hO dLw_943 rfl ?_
    refine lw_callC (as := [vI (xI K (i + 1)), vI (xI K (i + 2)), vI 0]) (st := []) (T0 := TX11) hO dLw_944 rfl (lw_t4 213 rfl rfl) kX11_given rfl (cP_given h (xI_R K (i + 1)) (xI_R K (i + 2)) (Or.inl rfl)) rfl (Nat.le_of_ble_eq_true rfl) (by decide) (Nat.le_of_succ_le hce) (Nat.le_trans (Nat.le_add_right _ 6) hsl) (fun r m hr => ?_)
    refine lw_al 2 hO dLw_947 rfl rfl ?_
    refine lw_ld 1 hO dLw_948 dLw_949 dLw_951 dLw_952 dLw_953 rfl rfl (by omega) 0 4 rfl rfl ?_
    refine lw_ld 2 hO dLw_954 dLw_955 dLw_957 dLw_958 dLw_959 rfl rfl (by omega) 0 4 rfl rfl ?_
    refine lw_ld 3 hO dLw_960 dLw_961 dLw_963 dLw_964 dLw_965 rfl rfl (by omega) 0 4 rfl rfl ?_
    refine lw_ceqT (tgt := 973) hO dLw_966 rfl (by rw [hz]; rfl) ?_
    refine lw_ic hO dLw_973 rfl ?_
    refine lw_callM (as := [vI (xI K (i + 1)), vI (xI K (i + 2)), vI 0]) (st := [.int (iI r)]) (T0 := TX12) hO dLw_974 rfl (lw_t7 220 rfl rfl) kX12_given rfl (ctM_given ν h.B h.G.1 (xI_R K (i + 1)) (xI_R K (i + 2)) (Or.inl rfl)) rfl (Nat.le_of_ble_eq_true rfl) (by decide) (Nat.le_of_succ_le hce) (Nat.le_trans (Nat.le_add_right _ 6) hsl) (fun r' n' hr' => ?_)
    obtain ⟨e1, e2⟩ : r = r' ∧ Rel m n' := ⟨hr.1.trans hr'.1.symm, by rw [hr'.2]; exact hr.2⟩
    subst e1
    exact lw_eq hO dLw_977 rfl (lw_wid (Nat.le_succ _) (Nat.le_add_right _ 6) (kk _ _ _ e2))
  · refine lw_al 1 hO dLw_917 rfl rfl ?_
    refine lw_ld 1 hO dLw_918 dLw_919 dLw_921 dLw_922 dLw_923 rfl rfl (by omega) 0 4 rfl rfl ?_
    refine lw_ld 2 hO dLw_924 dLw_925 dLw_927 dLw_928 dLw_929 rfl rfl (by omega) 0 4 rfl rfl ?_
    refine lw_ld 3 hO dLw_930 dLw_931 dLw_933 dLw_934 dLw_935 rfl rfl (by omega) 0 4 rfl rfl ?_
    refine lw_ceqF (tgt := 943) hO dLw_936 rfl rfl (fun e => hz ((iI_eq (xI_R K (i + 3)) (inRlit 0)).mp e)) ?_
    refine lw_ic hO dLw_939 rfl ?_
    refine lw_go (tgt := 944) hO dLw_940 rfl ?_
    refine lw_callC (as := [vI (xI K (i + 1)), vI (xI K (i + 2)), vI 1]) (st := []) (T0 := TX11) hO dLw_944 rfl (lw_t4 213 rfl rfl) kX11_given rfl (cP_given h (xI_R K (i + 1)) (xI_R K (i + 2)) (Or.inr rfl)) rfl (Nat.le_of_ble_eq_true rfl) (by decide) (Nat.le_of_succ_le hce) (Nat.le_trans (Nat.le_add_right _ 6) hsl) (fun r m hr => ?_)
    refine lw_al 2 hO dLw_947 rfl rfl ?_
    refine lw_ld 1 hO dLw_948 dLw_949 dLw_951 dLw_952 dLw_953 rfl rfl (by omega) 0 4 rfl rfl ?_
    refine lw_ld 2 hO dLw_954 dLw_955 dLw_957 dLw_958 dLw_959 rfl rfl (by omega) 0 4 rfl rfl ?_
    refine lw_ld 3 hO dLw_960 dLw_961 dLw_963 dLw_964 dLw_965 rfl rfl (by omega) 0 4 rfl rfl ?_
    refine lw_ceqF (tgt := 973) hO dLw_966 rfl rfl (fun e => hz ((iI_eq (xI_R K (i + 3)) (inRlit 0)).mp e)) ?_
    refine lw_ic hO dLw_969 rfl ?_
    refine lw_go (tgt := 974) hO dLw_970 rfl ?_
    refine lw_callM (as := [vI (xI K (i + 1)), vI (xI K (i + 2)), vI 1]) (st := [.int (iI r)]) (T0 := TX12) hO dLw_974 rfl (lw_t7 220 rfl rfl) kX12_given rfl (ctM_given ν h.B h.G.1 (xI_R K (i + 1)) (xI_R K (i + 2)) (Or.inr rfl)) rfl (Nat.le_of_ble_eq_true rfl) (by decide) (Nat.le_of_succ_le hce) (Nat.le_trans (Nat.le_add_right _ 6) hsl) (fun r' n' hr' => ?_)
    obtain ⟨e1, e2⟩ : r = r' ∧ Rel m n' := ⟨hr.1.trans hr'.1.symm, by rw [hr'.2]; exact hr.2⟩
    subst e1
    exact lw_eq hO dLw_977 rfl (lw_wid (Nat.le_succ _) (Nat.le_add_right _ 6) (kk _ _ _ e2))
section
variable {K : LT} {pc n i : Nat} {lv : List (Nat × Value)} {st : List Value} {μ ν : Mm} {f : Nat → Int64} {ce sl : Nat}
def yV (K : LT) (i : Nat) : Int64 := ((iI (xI K (i + 2))).toInt64 <<< ((iI 32).toInt64 &&& 63)) ||| ((iI (xI K (i + 3))).toInt64 &&& 4294967295)
theorem lw_i2l {x : Int32} (hO : LOk K) (hd : decode code pc = .ok (.i2l, 1)) (hn : pc + 1 = n) (kk : LW K n lv (.long x.toInt64 :: st) μ ν f ce sl) : LW K pc lv (.int x :: st) μ ν f ce sl := by
  subst hn
  intro H locs Ls hP hS hl
  exact lv_i2l hO.hx hO.hb hd rfl (kk H locs Ls hP hS hl)
theorem lw_bp {m : Int} (hO : LOk K) (hd : decode code pc = .ok (.bipush m, 2)) (hn : pc + 2 = n) (hv : (Int8.ofInt m).toInt32 = iI m) (kk : LW K n lv (.int (iI m) :: st) μ ν f ce sl) : LW K pc lv st μ ν f ce sl := by
  subst hn
  intro H locs Ls hP hS hl
  exact lv_bipush hO.hx hO.hb hd hv (kk H locs Ls hP hS hl)
theorem lw_shl {x : Int64} {y : Int32} (hO : LOk K) (hd : decode code pc = .ok (.lshl, 1)) (hn : pc + 1 = n) (kk : LW K n lv (.long (x <<< (y.toInt64 &&& 63)) :: st) μ ν f ce sl) : LW K pc lv (.int y :: .long x :: st) μ ν f ce sl := by
  subst hn
  intro H locs Ls hP hS hl
  exact lv_lshl hO.hx hO.hb hd rfl (kk H locs Ls hP hS hl)
theorem lw_ldl {ix : Nat} {v : Int64} (hO : LOk K) (hd : decode code pc = .ok (.ldc2_w ix, 3)) (hn : pc + 3 = n) (hw : Cond.constantLong R_law ix v ∈ lw_g) (kk : LW K n lv (.long v :: st) μ ν f ce sl) : LW K pc lv st μ ν f ce sl := by
  subst hn
  intro H locs Ls hP hS hl
  exact lv_ldc2 hO.hx hO.hb hO.fix.2.2.2.1 (hO.hts _ hw) hd (kk H locs Ls hP hS hl)
theorem lw_and {x y : Int64} (hO : LOk K) (hd : decode code pc = .ok (.land, 1)) (hn : pc + 1 = n) (kk : LW K n lv (.long (x &&& y) :: st) μ ν f ce sl) : LW K pc lv (.long y :: .long x :: st) μ ν f ce sl := by
  subst hn
  intro H locs Ls hP hS hl
  exact lv_land hO.hx hO.hb hd (kk H locs Ls hP hS hl)
theorem lw_or {x y : Int64} (hO : LOk K) (hd : decode code pc = .ok (.lor, 1)) (hn : pc + 1 = n) (kk : LW K n lv (.long (x ||| y) :: st) μ ν f ce sl) : LW K pc lv (.long y :: .long x :: st) μ ν f ce sl := by
  subst hn
  intro H locs Ls hP hS hl
  exact lv_lor hO.hx hO.hb hd (kk H locs Ls hP hS hl)
theorem lw_yv (kk : LW K pc lv (.long (lI (yV K i).toInt) :: st) μ ν f ce sl) : LW K pc lv (.long (((iI (xI K (i + 2))).toInt64 <<< ((iI 32).toInt64 &&& 63)) ||| ((iI (xI K (i + 3))).toInt64 &&& 4294967295)) :: st) μ ν f ce sl := by
  have e : lI (yV K i).toInt = yV K i := Int64.ofInt_toInt _
  rw [e] at kk
  exact kk
end
set_option maxRecDepth 100000 in
theorem lc_14 {K : LT} {μ ν : Mm} {f : Nat → Int64} {i ce sl : Nat} (hO : LOk K) (h : Rel μ ν) (hi : i + 6 ≤ K.L) (hce : ce + 1 ≤ 600000) (hsl : sl + 6 ≤ 7000000) (kk : ∀ μ' ν' f', Rel μ' ν' → LW K 1342 (LV K i) [] μ' ν' f' (ce + 1) (sl + 6)) : LW K 661 (LV K i) [] μ ν f ce sl := by
  refine lw_al 1 hO dLw_661 rfl rfl ?_
  refine lw_ld 1 hO dLw_662 dLw_663 dLw_665 dLw_666 dLw_667 rfl rfl (by omega) 0 4 rfl rfl ?_
  refine lw_ld 2 hO dLw_668 dLw_669 dLw_671 dLw_672 dLw_673 rfl rfl (by omega) 0 4 rfl rfl ?_
  refine lw_i2l hO dLw_674 rfl ?_
  refine lw_bp hO dLw_675 rfl (by decide) ?_
  refine lw_shl hO dLw_677 rfl ?_
  refine lw_ld 3 hO dLw_678 dLw_679 dLw_681 dLw_682 dLw_683 rfl rfl (by omega) 0 4 rfl rfl ?_
  refine lw_i2l hO dLw_684 rfl ?_
  refine lw_ldl (v := 4294967295) hO dLw_685 rfl (lw_t8 88 rfl rfl) ?_
  refine lw_and hO dLw_688 rfl ?_
  refine lw_or hO dLw_689 rfl ?_
  refine lw_yv ?_
  refine lw_callC (as := [vI (xI K (i + 1)), vL (yV K i).toInt]) (st := []) (T0 := TX11) hO dLw_690 rfl (lw_t4 84 rfl rfl) kX11_years rfl (cP_years h (xI_R K (i + 1))) rfl (Nat.le_of_ble_eq_true rfl) (by decide) (Nat.le_of_succ_le hce) (Nat.le_trans (Nat.le_add_right _ 6) hsl) (fun r m hr => ?_)
  refine lw_al 2 hO dLw_693 rfl rfl ?_
  refine lw_ld 1 hO dLw_694 dLw_695 dLw_697 dLw_698 dLw_699 rfl rfl (by omega) 0 4 rfl rfl ?_
  refine lw_ld 2 hO dLw_700 dLw_701 dLw_703 dLw_704 dLw_705 rfl rfl (by omega) 0 4 rfl rfl ?_
  refine lw_i2l hO dLw_706 rfl ?_
  refine lw_bp hO dLw_707 rfl (by decide) ?_
  refine lw_shl hO dLw_709 rfl ?_
  refine lw_ld 3 hO dLw_710 dLw_711 dLw_713 dLw_714 dLw_715 rfl rfl (by omega) 0 4 rfl rfl ?_
  refine lw_i2l hO dLw_716 rfl ?_
  refine lw_ldl (v := 4294967295) hO dLw_717 rfl (lw_t8 88 rfl rfl) ?_
  refine lw_and hO dLw_720 rfl ?_
  refine lw_or hO dLw_721 rfl ?_
  refine lw_yv ?_
  refine lw_callM (as := [vI (xI K (i + 1)), vL (yV K i).toInt]) (st := [.int (iI r)]) (T0 := TX12) hO dLw_722 rfl (lw_t7 157 rfl rfl) kX12_years rfl (ctM_years ν h.MG h.a2.1 h.a2.2 h.N.2.1.1 h.N.2.1.2 (xI_R K (i + 1)) (yV K i).toInt) rfl (Nat.le_of_ble_eq_true rfl) (by decide) (Nat.le_of_succ_le hce) (Nat.le_trans (Nat.le_add_right _ 6) hsl) (fun r' n' hr' => ?_)
  obtain ⟨e1, e2⟩ : r = r' ∧ Rel m n' := by
    split at hr
    · rename_i hw
      rw [if_pos hw] at hr'
      exact ⟨hr.1.trans hr'.1.symm, hr.2 _ hr'.2.1⟩
    · rename_i hw
      rw [if_neg hw] at hr'
      exact ⟨hr.1.trans hr'.1.symm, by rw [hr'.2]; exact hr.2⟩
  subst e1
  exact lw_eq hO dLw_725 rfl (lw_wid (Nat.le_succ _) (Nat.le_add_right _ 6) (kk _ _ _ e2))
