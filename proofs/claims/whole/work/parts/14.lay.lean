/-! ## the cells of the reference and of the class -/
def layM (k : Nat) : LC := match k with
  | 0 => .inr (.inr (12, [0, 4, 0, 0, 0, 0, 5, 6, 7, 8, 9, 10, 11, 0, 0, 12, 13, 14, 15, 16, 0, 0, 17, 18, 19, 0, 0, 20, 21, 0, 0, 0, 0, 0, 22, 0, 1, 23, 24, 25, 26, 0, 0, 0, 27, 0]))
  | 1 => .inl (.int, 240)
  | 2 => .inl (.int, 2600)
  | 3 => .inl (.int, 2600)
  | 4 => .inl (.int, 5)
  | 5 => .inl (.int, 5)
  | 6 => .inl (.int, 700)
  | 7 => .inl (.int, 700)
  | 8 => .inl (.int, 700)
  | 9 => .inl (.int, 6)
  | 10 => .inl (.int, 80)
  | 11 => .inl (.int, 4)
  | 12 => .inl (.int, 24)
  | 13 => .inl (.int, 15)
  | 14 => .inl (.int, 4)
  | 15 => .inl (.int, 24)
  | 16 => .inl (.int, 15)
  | 17 => .inl (.int, 218)
  | 18 => .inl (.int, 5)
  | 19 => .inl (.int, 8720)
  | 20 => .inl (.int, 37)
  | 21 => .inl (.int, 10)
  | 22 => .inl (.int, 10)
  | 23 => .inl (.boolean, 10)
  | _ => .inl (.int, 218)
def PM : LPk := (layM, 25, fun _ _ _ => True)
theorem XM : XOk PM := fun _ _ _ _ _ _ _ => trivial
def layC (k : Nat) : LC := match k with
  | 0 => .inr (.inr (11, [4, 7, 11, 15, 28, 30, 32, 34, 76, 79, 80, 84, 88, 0, 0, 0, 0]))
  | 1 => .inr (.inr (8, [5, 6, 0, 0, 0]))
  | 2 => .inl (.char, 240)
  | 3 => .inl (.int, 241)
  | 4 => .inr (.inr (10, [4, 8, 10]))
  | 5 => .inr (.inr (9, [9, 0, 0]))
  | 6 => .inl (.int, 48)
  | 7 => .inl (.int, 3)
  | 8 => .inr (.inr (5, [4, 12]))
  | 9 => .inr (.inr (4, [13, 14, 0]))
  | 10 => .inl (.int, 240)
  | 11 => .inl (.int, 32)
  | 12 => .inr (.inl ((.object "HangmanMayor$Law"), 4, (fun i => 13 + 3 * i)))
  | 13 => .inr (.inr (4, [17, 18, 0]))
  | 14 => .inl (.int, 240)
  | 15 => .inl (.int, 32)
  | 16 => .inr (.inr (4, [20, 21, 0]))
  | 17 => .inl (.int, 240)
  | 18 => .inl (.int, 32)
  | 19 => .inr (.inr (4, [23, 24, 0]))
  | 20 => .inl (.int, 240)
  | 21 => .inl (.int, 32)
  | 22 => .inr (.inr (4, [26, 27, 0]))
  | 23 => .inl (.int, 240)
  | 24 => .inl (.int, 32)
  | 25 => .inr (.inr (9, [29, 0, 0]))
  | 26 => .inl (.int, 48)
  | 27 => .inr (.inr (7, [31]))
  | 28 => .inl (.int, 98)
  | 29 => .inr (.inr (7, [33]))
  | 30 => .inl (.int, 98)
  | 31 => .inr (.inr (0, [35, 0, 0]))
  | 32 => .inr (.inl ((.array .int), 40, (fun i => 33 + i)))
  | 33 => .inl (.int, 98)
  | 34 => .inl (.int, 98)
  | 35 => .inl (.int, 98)
  | 36 => .inl (.int, 98)
  | 37 => .inl (.int, 98)
  | 38 => .inl (.int, 98)
  | 39 => .inl (.int, 98)
  | 40 => .inl (.int, 98)
  | 41 => .inl (.int, 98)
  | 42 => .inl (.int, 98)
  | 43 => .inl (.int, 98)
  | 44 => .inl (.int, 98)
  | 45 => .inl (.int, 98)
  | 46 => .inl (.int, 98)
  | 47 => .inl (.int, 98)
  | 48 => .inl (.int, 98)
  | 49 => .inl (.int, 98)
  | 50 => .inl (.int, 98)
  | 51 => .inl (.int, 98)
  | 52 => .inl (.int, 98)
  | 53 => .inl (.int, 98)
  | 54 => .inl (.int, 98)
  | 55 => .inl (.int, 98)
  | 56 => .inl (.int, 98)
  | 57 => .inl (.int, 98)
  | 58 => .inl (.int, 98)
  | 59 => .inl (.int, 98)
  | 60 => .inl (.int, 98)
  | 61 => .inl (.int, 98)
  | 62 => .inl (.int, 98)
  | 63 => .inl (.int, 98)
  | 64 => .inl (.int, 98)
  | 65 => .inl (.int, 98)
  | 66 => .inl (.int, 98)
  | 67 => .inl (.int, 98)
  | 68 => .inl (.int, 98)
  | 69 => .inl (.int, 98)
  | 70 => .inl (.int, 98)
  | 71 => .inl (.int, 98)
  | 72 => .inl (.int, 98)
  | 73 => .inr (.inr (3, [28, 77, 78, 2]))
  | 74 => .inl (.int, 6)
  | 75 => .inl (.int, 6)
  | 76 => .inr (.inr (1, [28, 76, 1]))
  | 77 => .inr (.inr (6, [28, 76, 81, 83, 0, 0]))
  | 78 => .inr (.inr (7, [82]))
  | 79 => .inl (.int, 98)
  | 80 => .inl (.int, 16)
  | 81 => .inr (.inr (2, [28, 85, 86, 87, 0, 0]))
  | 82 => .inl (.int, 1000)
  | 83 => .inl (.int, 6)
  | 84 => .inl (.int, 36)
  | _ => .inl (.int, 5)
theorem lw_ps {ws : List Cond} (ps : List Nat) (h : ws = ps.filterMap (fun i => lw_tbl[i]?)) (g : ws.all goodWord = true) : ∀ w ∈ ws, w ∈ lw_g := fun w hw => by
  have g1 := List.all_eq_true.mp g w hw
  rw [h] at hw
  obtain ⟨i, -, hi⟩ := List.mem_filterMap.mp hw
  exact lw_in i hi g1
theorem okX0 : ClsOk 0 RX0 TX0 3 := ⟨rfl, lw_ps [256, 258, 260] (by decide +kernel) (by decide +kernel)⟩
theorem okX1 : ClsOk 1 RX1 TX1 3 := ⟨rfl, lw_ps [306, 308, 310] (by decide +kernel) (by decide +kernel)⟩
theorem okX2 : ClsOk 2 RX2 TX2 6 := ⟨rfl, lw_ps [357, 359, 361, 363, 365, 367] (by decide +kernel) (by decide +kernel)⟩
theorem okX3 : ClsOk 3 RX3 TX3 4 := ⟨rfl, lw_ps [286, 288, 290, 292] (by decide +kernel) (by decide +kernel)⟩
theorem okX4 : ClsOk 4 RX4 TX4 3 := ⟨rfl, lw_ps [210, 212, 214] (by decide +kernel) (by decide +kernel)⟩
theorem okX5 : ClsOk 5 RX5 TX5 2 := ⟨rfl, lw_ps [220, 222] (by decide +kernel) (by decide +kernel)⟩
theorem okX6 : ClsOk 6 RX6 TX6 6 := ⟨rfl, lw_ps [329, 331, 333, 335, 337, 339] (by decide +kernel) (by decide +kernel)⟩
theorem okX7 : ClsOk 7 RX7 TX7 1 := ⟨rfl, lw_ps [241] (by decide +kernel) (by decide +kernel)⟩
theorem okX8 : ClsOk 8 RX8 TX8 5 := ⟨rfl, lw_ps [136, 138, 140, 142, 144] (by decide +kernel) (by decide +kernel)⟩
theorem okX9 : ClsOk 9 RX9 TX9 3 := ⟨rfl, lw_ps [176, 178, 180] (by decide +kernel) (by decide +kernel)⟩
theorem okX10 : ClsOk 10 RX10 TX10 3 := ⟨rfl, lw_ps [187, 189, 191] (by decide +kernel) (by decide +kernel)⟩
theorem okX11 : ClsOk 11 RX11 TX11 17 := ⟨rfl, lw_ps [388, 390, 392, 394, 396, 398, 400, 402, 404, 406, 408, 410, 412, 414, 416, 418, 420] (by decide +kernel) (by decide +kernel)⟩
theorem okX12 : ClsOk 12 RX12 TX12 46 := ⟨rfl, lw_ps [1306, 1308, 1310, 1312, 1314, 1316, 1318, 1320, 1322, 1324, 1326, 1328, 1330, 1332, 1334, 1336, 1338, 1340, 1342, 1344, 1346, 1348, 1350, 1352, 1354, 1356, 1358, 1360, 1362, 1364, 1366, 1368, 1370, 1372, 1374, 1376, 1378, 1380, 1382, 1384, 1386, 1388, 1390, 1392, 1394, 1396] (by decide +kernel) (by decide +kernel)⟩
set_option maxRecDepth 100000 in
theorem gM_thrown {Q : Option AV → Mm → Prop} {K : KT} {cc : ByteArray} {nL d : Nat} {ret : Option FieldType} {pc n : Nat} {ls : List (Option AV)} {st : List AV} {μ : Mm} (hO : KOk PM Q K cc RX12 nL d ret) (hd : decode cc pc = .ok (.getfield 90, 3)) (hn : pc + 3 = n) (kk : AW K n ls (vI (μ.1 0 0) :: st) μ) : AW K pc ls (vR 0 :: st) μ := aw_get (f := 0) hO hd hn okX12 (by decide) (lw_t5 214 rfl rfl) (by decide) rfl rfl rfl kk
set_option maxRecDepth 100000 in
theorem pM_thrown {Q : Option AV → Mm → Prop} {K : KT} {cc : ByteArray} {nL d : Nat} {ret : Option FieldType} {pc n : Nat} {ls : List (Option AV)} {st : List AV} {μ : Mm} {a : Int} (hO : KOk PM Q K cc RX12 nL d ret) (hd : decode cc pc = .ok (.putfield 90, 3)) (hn : pc + 3 = n) (kk : AW K n ls st (mst μ 0 0 a)) : AW K pc ls (vI a :: vR 0 :: st) μ := aw_put (f := 0) hO hd hn okX12 tyX12_ok nmX12 (by decide) (lw_t5 214 rfl rfl) rfl rfl rfl (by decide) rfl rfl kk
set_option maxRecDepth 100000 in
theorem gM_tape {Q : Option AV → Mm → Prop} {K : KT} {cc : ByteArray} {nL d : Nat} {ret : Option FieldType} {pc n : Nat} {ls : List (Option AV)} {st : List AV} {μ : Mm} (hO : KOk PM Q K cc RX12 nL d ret) (hd : decode cc pc = .ok (.getfield 9, 3)) (hn : pc + 3 = n) (kk : AW K n ls (vR 1 :: st) μ) : AW K pc ls (vR 0 :: st) μ := aw_get (f := 1) hO hd hn okX12 (by decide) (lw_t5 215 rfl rfl) (by decide) rfl rfl rfl kk
set_option maxRecDepth 100000 in
theorem gM_size {Q : Option AV → Mm → Prop} {K : KT} {cc : ByteArray} {nL d : Nat} {ret : Option FieldType} {pc n : Nat} {ls : List (Option AV)} {st : List AV} {μ : Mm} (hO : KOk PM Q K cc RX12 nL d ret) (hd : decode cc pc = .ok (.getfield 97, 3)) (hn : pc + 3 = n) (kk : AW K n ls (vI (μ.1 0 2) :: st) μ) : AW K pc ls (vR 0 :: st) μ := aw_get (f := 2) hO hd hn okX12 (by decide) (lw_t5 216 rfl rfl) (by decide) rfl rfl rfl kk
set_option maxRecDepth 100000 in
theorem pM_size {Q : Option AV → Mm → Prop} {K : KT} {cc : ByteArray} {nL d : Nat} {ret : Option FieldType} {pc n : Nat} {ls : List (Option AV)} {st : List AV} {μ : Mm} {a : Int} (hO : KOk PM Q K cc RX12 nL d ret) (hd : decode cc pc = .ok (.putfield 97, 3)) (hn : pc + 3 = n) (kk : AW K n ls st (mst μ 0 2 a)) : AW K pc ls (vI a :: vR 0 :: st) μ := aw_put (f := 2) hO hd hn okX12 tyX12_ok nmX12 (by decide) (lw_t5 216 rfl rfl) rfl rfl rfl (by decide) rfl rfl kk
set_option maxRecDepth 100000 in
theorem gM_at {Q : Option AV → Mm → Prop} {K : KT} {cc : ByteArray} {nL d : Nat} {ret : Option FieldType} {pc n : Nat} {ls : List (Option AV)} {st : List AV} {μ : Mm} (hO : KOk PM Q K cc RX12 nL d ret) (hd : decode cc pc = .ok (.getfield 100, 3)) (hn : pc + 3 = n) (kk : AW K n ls (vI (μ.1 0 3) :: st) μ) : AW K pc ls (vR 0 :: st) μ := aw_get (f := 3) hO hd hn okX12 (by decide) (lw_t5 217 rfl rfl) (by decide) rfl rfl rfl kk
set_option maxRecDepth 100000 in
theorem pM_at {Q : Option AV → Mm → Prop} {K : KT} {cc : ByteArray} {nL d : Nat} {ret : Option FieldType} {pc n : Nat} {ls : List (Option AV)} {st : List AV} {μ : Mm} {a : Int} (hO : KOk PM Q K cc RX12 nL d ret) (hd : decode cc pc = .ok (.putfield 100, 3)) (hn : pc + 3 = n) (kk : AW K n ls st (mst μ 0 3 a)) : AW K pc ls (vI a :: vR 0 :: st) μ := aw_put (f := 3) hO hd hn okX12 tyX12_ok nmX12 (by decide) (lw_t5 217 rfl rfl) rfl rfl rfl (by decide) rfl rfl kk
set_option maxRecDepth 100000 in
theorem gM_wrong {Q : Option AV → Mm → Prop} {K : KT} {cc : ByteArray} {nL d : Nat} {ret : Option FieldType} {pc n : Nat} {ls : List (Option AV)} {st : List AV} {μ : Mm} (hO : KOk PM Q K cc RX12 nL d ret) (hd : decode cc pc = .ok (.getfield 107, 3)) (hn : pc + 3 = n) (kk : AW K n ls (vI (μ.1 0 4) :: st) μ) : AW K pc ls (vR 0 :: st) μ := aw_get (f := 4) hO hd hn okX12 (by decide) (lw_t5 218 rfl rfl) (by decide) rfl rfl rfl kk
set_option maxRecDepth 100000 in
theorem pM_wrong {Q : Option AV → Mm → Prop} {K : KT} {cc : ByteArray} {nL d : Nat} {ret : Option FieldType} {pc n : Nat} {ls : List (Option AV)} {st : List AV} {μ : Mm} {a : Int} (hO : KOk PM Q K cc RX12 nL d ret) (hd : decode cc pc = .ok (.putfield 107, 3)) (hn : pc + 3 = n) (kk : AW K n ls st (mst μ 0 4 a)) : AW K pc ls (vI a :: vR 0 :: st) μ := aw_put (f := 4) hO hd hn okX12 tyX12_ok nmX12 (by decide) (lw_t5 218 rfl rfl) rfl rfl rfl (by decide) rfl rfl kk
set_option maxRecDepth 100000 in
theorem gM_deep {Q : Option AV → Mm → Prop} {K : KT} {cc : ByteArray} {nL d : Nat} {ret : Option FieldType} {pc n : Nat} {ls : List (Option AV)} {st : List AV} {μ : Mm} (hO : KOk PM Q K cc RX12 nL d ret) (hd : decode cc pc = .ok (.getfield 113, 3)) (hn : pc + 3 = n) (kk : AW K n ls (vI (μ.1 0 5) :: st) μ) : AW K pc ls (vR 0 :: st) μ := aw_get (f := 5) hO hd hn okX12 (by decide) (lw_t5 219 rfl rfl) (by decide) rfl rfl rfl kk
set_option maxRecDepth 100000 in
theorem pM_deep {Q : Option AV → Mm → Prop} {K : KT} {cc : ByteArray} {nL d : Nat} {ret : Option FieldType} {pc n : Nat} {ls : List (Option AV)} {st : List AV} {μ : Mm} {a : Int} (hO : KOk PM Q K cc RX12 nL d ret) (hd : decode cc pc = .ok (.putfield 113, 3)) (hn : pc + 3 = n) (kk : AW K n ls st (mst μ 0 5 a)) : AW K pc ls (vI a :: vR 0 :: st) μ := aw_put (f := 5) hO hd hn okX12 tyX12_ok nmX12 (by decide) (lw_t5 219 rfl rfl) rfl rfl rfl (by decide) rfl rfl kk
set_option maxRecDepth 100000 in
theorem gM_code {Q : Option AV → Mm → Prop} {K : KT} {cc : ByteArray} {nL d : Nat} {ret : Option FieldType} {pc n : Nat} {ls : List (Option AV)} {st : List AV} {μ : Mm} (hO : KOk PM Q K cc RX12 nL d ret) (hd : decode cc pc = .ok (.getfield 13, 3)) (hn : pc + 3 = n) (kk : AW K n ls (vR 2 :: st) μ) : AW K pc ls (vR 0 :: st) μ := aw_get (f := 6) hO hd hn okX12 (by decide) (lw_t5 220 rfl rfl) (by decide) rfl rfl rfl kk
set_option maxRecDepth 100000 in
theorem gM_value {Q : Option AV → Mm → Prop} {K : KT} {cc : ByteArray} {nL d : Nat} {ret : Option FieldType} {pc n : Nat} {ls : List (Option AV)} {st : List AV} {μ : Mm} (hO : KOk PM Q K cc RX12 nL d ret) (hd : decode cc pc = .ok (.getfield 16, 3)) (hn : pc + 3 = n) (kk : AW K n ls (vR 3 :: st) μ) : AW K pc ls (vR 0 :: st) μ := aw_get (f := 7) hO hd hn okX12 (by decide) (lw_t5 221 rfl rfl) (by decide) rfl rfl rfl kk
set_option maxRecDepth 100000 in
theorem gM_codes {Q : Option AV → Mm → Prop} {K : KT} {cc : ByteArray} {nL d : Nat} {ret : Option FieldType} {pc n : Nat} {ls : List (Option AV)} {st : List AV} {μ : Mm} (hO : KOk PM Q K cc RX12 nL d ret) (hd : decode cc pc = .ok (.getfield 19, 3)) (hn : pc + 3 = n) (kk : AW K n ls (vR 4 :: st) μ) : AW K pc ls (vR 0 :: st) μ := aw_get (f := 8) hO hd hn okX12 (by decide) (lw_t5 222 rfl rfl) (by decide) rfl rfl rfl kk
set_option maxRecDepth 100000 in
theorem gM_clauses {Q : Option AV → Mm → Prop} {K : KT} {cc : ByteArray} {nL d : Nat} {ret : Option FieldType} {pc n : Nat} {ls : List (Option AV)} {st : List AV} {μ : Mm} (hO : KOk PM Q K cc RX12 nL d ret) (hd : decode cc pc = .ok (.getfield 22, 3)) (hn : pc + 3 = n) (kk : AW K n ls (vR 5 :: st) μ) : AW K pc ls (vR 0 :: st) μ := aw_get (f := 9) hO hd hn okX12 (by decide) (lw_t5 223 rfl rfl) (by decide) rfl rfl rfl kk
set_option maxRecDepth 100000 in
theorem gM_testFrom {Q : Option AV → Mm → Prop} {K : KT} {cc : ByteArray} {nL d : Nat} {ret : Option FieldType} {pc n : Nat} {ls : List (Option AV)} {st : List AV} {μ : Mm} (hO : KOk PM Q K cc RX12 nL d ret) (hd : decode cc pc = .ok (.getfield 25, 3)) (hn : pc + 3 = n) (kk : AW K n ls (vR 6 :: st) μ) : AW K pc ls (vR 0 :: st) μ := aw_get (f := 10) hO hd hn okX12 (by decide) (lw_t5 224 rfl rfl) (by decide) rfl rfl rfl kk
set_option maxRecDepth 100000 in
theorem gM_sumFrom {Q : Option AV → Mm → Prop} {K : KT} {cc : ByteArray} {nL d : Nat} {ret : Option FieldType} {pc n : Nat} {ls : List (Option AV)} {st : List AV} {μ : Mm} (hO : KOk PM Q K cc RX12 nL d ret) (hd : decode cc pc = .ok (.getfield 28, 3)) (hn : pc + 3 = n) (kk : AW K n ls (vR 7 :: st) μ) : AW K pc ls (vR 0 :: st) μ := aw_get (f := 11) hO hd hn okX12 (by decide) (lw_t5 225 rfl rfl) (by decide) rfl rfl rfl kk
set_option maxRecDepth 100000 in
theorem gM_sumTo {Q : Option AV → Mm → Prop} {K : KT} {cc : ByteArray} {nL d : Nat} {ret : Option FieldType} {pc n : Nat} {ls : List (Option AV)} {st : List AV} {μ : Mm} (hO : KOk PM Q K cc RX12 nL d ret) (hd : decode cc pc = .ok (.getfield 31, 3)) (hn : pc + 3 = n) (kk : AW K n ls (vR 8 :: st) μ) : AW K pc ls (vR 0 :: st) μ := aw_get (f := 12) hO hd hn okX12 (by decide) (lw_t5 226 rfl rfl) (by decide) rfl rfl rfl kk
set_option maxRecDepth 100000 in
theorem gM_laws {Q : Option AV → Mm → Prop} {K : KT} {cc : ByteArray} {nL d : Nat} {ret : Option FieldType} {pc n : Nat} {ls : List (Option AV)} {st : List AV} {μ : Mm} (hO : KOk PM Q K cc RX12 nL d ret) (hd : decode cc pc = .ok (.getfield 261, 3)) (hn : pc + 3 = n) (kk : AW K n ls (vI (μ.1 0 13) :: st) μ) : AW K pc ls (vR 0 :: st) μ := aw_get (f := 13) hO hd hn okX12 (by decide) (lw_t5 227 rfl rfl) (by decide) rfl rfl rfl kk
set_option maxRecDepth 100000 in
theorem pM_laws {Q : Option AV → Mm → Prop} {K : KT} {cc : ByteArray} {nL d : Nat} {ret : Option FieldType} {pc n : Nat} {ls : List (Option AV)} {st : List AV} {μ : Mm} {a : Int} (hO : KOk PM Q K cc RX12 nL d ret) (hd : decode cc pc = .ok (.putfield 261, 3)) (hn : pc + 3 = n) (kk : AW K n ls st (mst μ 0 13 a)) : AW K pc ls (vI a :: vR 0 :: st) μ := aw_put (f := 13) hO hd hn okX12 tyX12_ok nmX12 (by decide) (lw_t5 227 rfl rfl) rfl rfl rfl (by decide) rfl rfl kk
set_option maxRecDepth 100000 in
theorem gM_text {Q : Option AV → Mm → Prop} {K : KT} {cc : ByteArray} {nL d : Nat} {ret : Option FieldType} {pc n : Nat} {ls : List (Option AV)} {st : List AV} {μ : Mm} (hO : KOk PM Q K cc RX12 nL d ret) (hd : decode cc pc = .ok (.getfield 110, 3)) (hn : pc + 3 = n) (kk : AW K n ls (vI (μ.1 0 14) :: st) μ) : AW K pc ls (vR 0 :: st) μ := aw_get (f := 14) hO hd hn okX12 (by decide) (lw_t5 228 rfl rfl) (by decide) rfl rfl rfl kk
set_option maxRecDepth 100000 in
theorem pM_text {Q : Option AV → Mm → Prop} {K : KT} {cc : ByteArray} {nL d : Nat} {ret : Option FieldType} {pc n : Nat} {ls : List (Option AV)} {st : List AV} {μ : Mm} {a : Int} (hO : KOk PM Q K cc RX12 nL d ret) (hd : decode cc pc = .ok (.putfield 110, 3)) (hn : pc + 3 = n) (kk : AW K n ls st (mst μ 0 14 a)) : AW K pc ls (vI a :: vR 0 :: st) μ := aw_put (f := 14) hO hd hn okX12 tyX12_ok nmX12 (by decide) (lw_t5 228 rfl rfl) rfl rfl rfl (by decide) rfl rfl kk
set_option maxRecDepth 100000 in
theorem gM_letters {Q : Option AV → Mm → Prop} {K : KT} {cc : ByteArray} {nL d : Nat} {ret : Option FieldType} {pc n : Nat} {ls : List (Option AV)} {st : List AV} {μ : Mm} (hO : KOk PM Q K cc RX12 nL d ret) (hd : decode cc pc = .ok (.getfield 34, 3)) (hn : pc + 3 = n) (kk : AW K n ls (vR 9 :: st) μ) : AW K pc ls (vR 0 :: st) μ := aw_get (f := 15) hO hd hn okX12 (by decide) (lw_t5 229 rfl rfl) (by decide) rfl rfl rfl kk
set_option maxRecDepth 100000 in
theorem gM_stack {Q : Option AV → Mm → Prop} {K : KT} {cc : ByteArray} {nL d : Nat} {ret : Option FieldType} {pc n : Nat} {ls : List (Option AV)} {st : List AV} {μ : Mm} (hO : KOk PM Q K cc RX12 nL d ret) (hd : decode cc pc = .ok (.getfield 37, 3)) (hn : pc + 3 = n) (kk : AW K n ls (vR 10 :: st) μ) : AW K pc ls (vR 0 :: st) μ := aw_get (f := 16) hO hd hn okX12 (by decide) (lw_t5 230 rfl rfl) (by decide) rfl rfl rfl kk
set_option maxRecDepth 100000 in
theorem gM_readRule {Q : Option AV → Mm → Prop} {K : KT} {cc : ByteArray} {nL d : Nat} {ret : Option FieldType} {pc n : Nat} {ls : List (Option AV)} {st : List AV} {μ : Mm} (hO : KOk PM Q K cc RX12 nL d ret) (hd : decode cc pc = .ok (.getfield 40, 3)) (hn : pc + 3 = n) (kk : AW K n ls (vR 11 :: st) μ) : AW K pc ls (vR 0 :: st) μ := aw_get (f := 17) hO hd hn okX12 (by decide) (lw_t5 231 rfl rfl) (by decide) rfl rfl rfl kk
set_option maxRecDepth 100000 in
theorem gM_readPerson {Q : Option AV → Mm → Prop} {K : KT} {cc : ByteArray} {nL d : Nat} {ret : Option FieldType} {pc n : Nat} {ls : List (Option AV)} {st : List AV} {μ : Mm} (hO : KOk PM Q K cc RX12 nL d ret) (hd : decode cc pc = .ok (.getfield 43, 3)) (hn : pc + 3 = n) (kk : AW K n ls (vR 12 :: st) μ) : AW K pc ls (vR 0 :: st) μ := aw_get (f := 18) hO hd hn okX12 (by decide) (lw_t5 232 rfl rfl) (by decide) rfl rfl rfl kk
set_option maxRecDepth 100000 in
theorem gM_readTrouble {Q : Option AV → Mm → Prop} {K : KT} {cc : ByteArray} {nL d : Nat} {ret : Option FieldType} {pc n : Nat} {ls : List (Option AV)} {st : List AV} {μ : Mm} (hO : KOk PM Q K cc RX12 nL d ret) (hd : decode cc pc = .ok (.getfield 46, 3)) (hn : pc + 3 = n) (kk : AW K n ls (vR 13 :: st) μ) : AW K pc ls (vR 0 :: st) μ := aw_get (f := 19) hO hd hn okX12 (by decide) (lw_t5 233 rfl rfl) (by decide) rfl rfl rfl kk
set_option maxRecDepth 100000 in
theorem gM_readPersons {Q : Option AV → Mm → Prop} {K : KT} {cc : ByteArray} {nL d : Nat} {ret : Option FieldType} {pc n : Nat} {ls : List (Option AV)} {st : List AV} {μ : Mm} (hO : KOk PM Q K cc RX12 nL d ret) (hd : decode cc pc = .ok (.getfield 226, 3)) (hn : pc + 3 = n) (kk : AW K n ls (vI (μ.1 0 20) :: st) μ) : AW K pc ls (vR 0 :: st) μ := aw_get (f := 20) hO hd hn okX12 (by decide) (lw_t5 234 rfl rfl) (by decide) rfl rfl rfl kk
set_option maxRecDepth 100000 in
theorem pM_readPersons {Q : Option AV → Mm → Prop} {K : KT} {cc : ByteArray} {nL d : Nat} {ret : Option FieldType} {pc n : Nat} {ls : List (Option AV)} {st : List AV} {μ : Mm} {a : Int} (hO : KOk PM Q K cc RX12 nL d ret) (hd : decode cc pc = .ok (.putfield 226, 3)) (hn : pc + 3 = n) (kk : AW K n ls st (mst μ 0 20 a)) : AW K pc ls (vI a :: vR 0 :: st) μ := aw_put (f := 20) hO hd hn okX12 tyX12_ok nmX12 (by decide) (lw_t5 234 rfl rfl) rfl rfl rfl (by decide) rfl rfl kk
set_option maxRecDepth 100000 in
theorem gM_readTroubles {Q : Option AV → Mm → Prop} {K : KT} {cc : ByteArray} {nL d : Nat} {ret : Option FieldType} {pc n : Nat} {ls : List (Option AV)} {st : List AV} {μ : Mm} (hO : KOk PM Q K cc RX12 nL d ret) (hd : decode cc pc = .ok (.getfield 229, 3)) (hn : pc + 3 = n) (kk : AW K n ls (vI (μ.1 0 21) :: st) μ) : AW K pc ls (vR 0 :: st) μ := aw_get (f := 21) hO hd hn okX12 (by decide) (lw_t5 235 rfl rfl) (by decide) rfl rfl rfl kk
set_option maxRecDepth 100000 in
theorem pM_readTroubles {Q : Option AV → Mm → Prop} {K : KT} {cc : ByteArray} {nL d : Nat} {ret : Option FieldType} {pc n : Nat} {ls : List (Option AV)} {st : List AV} {μ : Mm} {a : Int} (hO : KOk PM Q K cc RX12 nL d ret) (hd : decode cc pc = .ok (.putfield 229, 3)) (hn : pc + 3 = n) (kk : AW K n ls st (mst μ 0 21 a)) : AW K pc ls (vI a :: vR 0 :: st) μ := aw_put (f := 21) hO hd hn okX12 tyX12_ok nmX12 (by decide) (lw_t5 235 rfl rfl) rfl rfl rfl (by decide) rfl rfl kk
set_option maxRecDepth 100000 in
theorem gM_rule {Q : Option AV → Mm → Prop} {K : KT} {cc : ByteArray} {nL d : Nat} {ret : Option FieldType} {pc n : Nat} {ls : List (Option AV)} {st : List AV} {μ : Mm} (hO : KOk PM Q K cc RX12 nL d ret) (hd : decode cc pc = .ok (.getfield 49, 3)) (hn : pc + 3 = n) (kk : AW K n ls (vR 14 :: st) μ) : AW K pc ls (vR 0 :: st) μ := aw_get (f := 22) hO hd hn okX12 (by decide) (lw_t5 236 rfl rfl) (by decide) rfl rfl rfl kk
set_option maxRecDepth 100000 in
theorem gM_person {Q : Option AV → Mm → Prop} {K : KT} {cc : ByteArray} {nL d : Nat} {ret : Option FieldType} {pc n : Nat} {ls : List (Option AV)} {st : List AV} {μ : Mm} (hO : KOk PM Q K cc RX12 nL d ret) (hd : decode cc pc = .ok (.getfield 52, 3)) (hn : pc + 3 = n) (kk : AW K n ls (vR 15 :: st) μ) : AW K pc ls (vR 0 :: st) μ := aw_get (f := 23) hO hd hn okX12 (by decide) (lw_t5 237 rfl rfl) (by decide) rfl rfl rfl kk
set_option maxRecDepth 100000 in
theorem gM_trouble {Q : Option AV → Mm → Prop} {K : KT} {cc : ByteArray} {nL d : Nat} {ret : Option FieldType} {pc n : Nat} {ls : List (Option AV)} {st : List AV} {μ : Mm} (hO : KOk PM Q K cc RX12 nL d ret) (hd : decode cc pc = .ok (.getfield 55, 3)) (hn : pc + 3 = n) (kk : AW K n ls (vR 16 :: st) μ) : AW K pc ls (vR 0 :: st) μ := aw_get (f := 24) hO hd hn okX12 (by decide) (lw_t5 238 rfl rfl) (by decide) rfl rfl rfl kk
set_option maxRecDepth 100000 in
theorem gM_persons {Q : Option AV → Mm → Prop} {K : KT} {cc : ByteArray} {nL d : Nat} {ret : Option FieldType} {pc n : Nat} {ls : List (Option AV)} {st : List AV} {μ : Mm} (hO : KOk PM Q K cc RX12 nL d ret) (hd : decode cc pc = .ok (.getfield 242, 3)) (hn : pc + 3 = n) (kk : AW K n ls (vI (μ.1 0 25) :: st) μ) : AW K pc ls (vR 0 :: st) μ := aw_get (f := 25) hO hd hn okX12 (by decide) (lw_t5 239 rfl rfl) (by decide) rfl rfl rfl kk
set_option maxRecDepth 100000 in
theorem pM_persons {Q : Option AV → Mm → Prop} {K : KT} {cc : ByteArray} {nL d : Nat} {ret : Option FieldType} {pc n : Nat} {ls : List (Option AV)} {st : List AV} {μ : Mm} {a : Int} (hO : KOk PM Q K cc RX12 nL d ret) (hd : decode cc pc = .ok (.putfield 242, 3)) (hn : pc + 3 = n) (kk : AW K n ls st (mst μ 0 25 a)) : AW K pc ls (vI a :: vR 0 :: st) μ := aw_put (f := 25) hO hd hn okX12 tyX12_ok nmX12 (by decide) (lw_t5 239 rfl rfl) rfl rfl rfl (by decide) rfl rfl kk
set_option maxRecDepth 100000 in
theorem gM_troubles {Q : Option AV → Mm → Prop} {K : KT} {cc : ByteArray} {nL d : Nat} {ret : Option FieldType} {pc n : Nat} {ls : List (Option AV)} {st : List AV} {μ : Mm} (hO : KOk PM Q K cc RX12 nL d ret) (hd : decode cc pc = .ok (.getfield 245, 3)) (hn : pc + 3 = n) (kk : AW K n ls (vI (μ.1 0 26) :: st) μ) : AW K pc ls (vR 0 :: st) μ := aw_get (f := 26) hO hd hn okX12 (by decide) (lw_t6 0 rfl rfl) (by decide) rfl rfl rfl kk
set_option maxRecDepth 100000 in
theorem pM_troubles {Q : Option AV → Mm → Prop} {K : KT} {cc : ByteArray} {nL d : Nat} {ret : Option FieldType} {pc n : Nat} {ls : List (Option AV)} {st : List AV} {μ : Mm} {a : Int} (hO : KOk PM Q K cc RX12 nL d ret) (hd : decode cc pc = .ok (.putfield 245, 3)) (hn : pc + 3 = n) (kk : AW K n ls st (mst μ 0 26 a)) : AW K pc ls (vI a :: vR 0 :: st) μ := aw_put (f := 26) hO hd hn okX12 tyX12_ok nmX12 (by decide) (lw_t6 0 rfl rfl) rfl rfl rfl (by decide) rfl rfl kk
set_option maxRecDepth 100000 in
theorem gM_now {Q : Option AV → Mm → Prop} {K : KT} {cc : ByteArray} {nL d : Nat} {ret : Option FieldType} {pc n : Nat} {ls : List (Option AV)} {st : List AV} {μ : Mm} (hO : KOk PM Q K cc RX12 nL d ret) (hd : decode cc pc = .ok (.getfield 58, 3)) (hn : pc + 3 = n) (kk : AW K n ls (vR 17 :: st) μ) : AW K pc ls (vR 0 :: st) μ := aw_get (f := 27) hO hd hn okX12 (by decide) (lw_t6 1 rfl rfl) (by decide) rfl rfl rfl kk
set_option maxRecDepth 100000 in
theorem gM_refused {Q : Option AV → Mm → Prop} {K : KT} {cc : ByteArray} {nL d : Nat} {ret : Option FieldType} {pc n : Nat} {ls : List (Option AV)} {st : List AV} {μ : Mm} (hO : KOk PM Q K cc RX12 nL d ret) (hd : decode cc pc = .ok (.getfield 61, 3)) (hn : pc + 3 = n) (kk : AW K n ls (vR 18 :: st) μ) : AW K pc ls (vR 0 :: st) μ := aw_get (f := 28) hO hd hn okX12 (by decide) (lw_t6 2 rfl rfl) (by decide) rfl rfl rfl kk
set_option maxRecDepth 100000 in
theorem gM_holding {Q : Option AV → Mm → Prop} {K : KT} {cc : ByteArray} {nL d : Nat} {ret : Option FieldType} {pc n : Nat} {ls : List (Option AV)} {st : List AV} {μ : Mm} (hO : KOk PM Q K cc RX12 nL d ret) (hd : decode cc pc = .ok (.getfield 64, 3)) (hn : pc + 3 = n) (kk : AW K n ls (vI (μ.1 0 29) :: st) μ) : AW K pc ls (vR 0 :: st) μ := aw_get (f := 29) hO hd hn okX12 (by decide) (lw_t6 3 rfl rfl) (by decide) rfl rfl rfl kk
set_option maxRecDepth 100000 in
theorem pM_holding {Q : Option AV → Mm → Prop} {K : KT} {cc : ByteArray} {nL d : Nat} {ret : Option FieldType} {pc n : Nat} {ls : List (Option AV)} {st : List AV} {μ : Mm} {a : Int} (hO : KOk PM Q K cc RX12 nL d ret) (hd : decode cc pc = .ok (.putfield 64, 3)) (hn : pc + 3 = n) (kk : AW K n ls st (mst μ 0 29 a)) : AW K pc ls (vI a :: vR 0 :: st) μ := aw_put (f := 29) hO hd hn okX12 tyX12_ok nmX12 (by decide) (lw_t6 3 rfl rfl) rfl rfl rfl (by decide) rfl rfl kk
set_option maxRecDepth 100000 in
theorem gM_fated {Q : Option AV → Mm → Prop} {K : KT} {cc : ByteArray} {nL d : Nat} {ret : Option FieldType} {pc n : Nat} {ls : List (Option AV)} {st : List AV} {μ : Mm} (hO : KOk PM Q K cc RX12 nL d ret) (hd : decode cc pc = .ok (.getfield 68, 3)) (hn : pc + 3 = n) (kk : AW K n ls (vI (μ.1 0 30) :: st) μ) : AW K pc ls (vR 0 :: st) μ := aw_get (f := 30) hO hd hn okX12 (by decide) (lw_t6 4 rfl rfl) (by decide) rfl rfl rfl kk
set_option maxRecDepth 100000 in
theorem pM_fated {Q : Option AV → Mm → Prop} {K : KT} {cc : ByteArray} {nL d : Nat} {ret : Option FieldType} {pc n : Nat} {ls : List (Option AV)} {st : List AV} {μ : Mm} {a : Int} (hO : KOk PM Q K cc RX12 nL d ret) (hd : decode cc pc = .ok (.putfield 68, 3)) (hn : pc + 3 = n) (kk : AW K n ls st (mst μ 0 30 a)) : AW K pc ls (vI a :: vR 0 :: st) μ := aw_put (f := 30) hO hd hn okX12 tyX12_ok nmX12 (by decide) (lw_t6 4 rfl rfl) rfl rfl rfl (by decide) rfl rfl kk
set_option maxRecDepth 100000 in
theorem gM_chosen {Q : Option AV → Mm → Prop} {K : KT} {cc : ByteArray} {nL d : Nat} {ret : Option FieldType} {pc n : Nat} {ls : List (Option AV)} {st : List AV} {μ : Mm} (hO : KOk PM Q K cc RX12 nL d ret) (hd : decode cc pc = .ok (.getfield 298, 3)) (hn : pc + 3 = n) (kk : AW K n ls (vI (μ.1 0 31) :: st) μ) : AW K pc ls (vR 0 :: st) μ := aw_get (f := 31) hO hd hn okX12 (by decide) (lw_t6 5 rfl rfl) (by decide) rfl rfl rfl kk
set_option maxRecDepth 100000 in
theorem pM_chosen {Q : Option AV → Mm → Prop} {K : KT} {cc : ByteArray} {nL d : Nat} {ret : Option FieldType} {pc n : Nat} {ls : List (Option AV)} {st : List AV} {μ : Mm} {a : Int} (hO : KOk PM Q K cc RX12 nL d ret) (hd : decode cc pc = .ok (.putfield 298, 3)) (hn : pc + 3 = n) (kk : AW K n ls st (mst μ 0 31 a)) : AW K pc ls (vI a :: vR 0 :: st) μ := aw_put (f := 31) hO hd hn okX12 tyX12_ok nmX12 (by decide) (lw_t6 5 rfl rfl) rfl rfl rfl (by decide) rfl rfl kk
set_option maxRecDepth 100000 in
theorem gM_byRest {Q : Option AV → Mm → Prop} {K : KT} {cc : ByteArray} {nL d : Nat} {ret : Option FieldType} {pc n : Nat} {ls : List (Option AV)} {st : List AV} {μ : Mm} (hO : KOk PM Q K cc RX12 nL d ret) (hd : decode cc pc = .ok (.getfield 301, 3)) (hn : pc + 3 = n) (kk : AW K n ls (vI (μ.1 0 32) :: st) μ) : AW K pc ls (vR 0 :: st) μ := aw_get (f := 32) hO hd hn okX12 (by decide) (lw_t6 6 rfl rfl) (by decide) rfl rfl rfl kk
set_option maxRecDepth 100000 in
theorem pM_byRest {Q : Option AV → Mm → Prop} {K : KT} {cc : ByteArray} {nL d : Nat} {ret : Option FieldType} {pc n : Nat} {ls : List (Option AV)} {st : List AV} {μ : Mm} {a : Int} (hO : KOk PM Q K cc RX12 nL d ret) (hd : decode cc pc = .ok (.putfield 301, 3)) (hn : pc + 3 = n) (kk : AW K n ls st (mst μ 0 32 a)) : AW K pc ls (vI a :: vR 0 :: st) μ := aw_put (f := 32) hO hd hn okX12 tyX12_ok nmX12 (by decide) (lw_t6 6 rfl rfl) rfl rfl rfl (by decide) rfl rfl kk
set_option maxRecDepth 100000 in
theorem gM_troublesMet {Q : Option AV → Mm → Prop} {K : KT} {cc : ByteArray} {nL d : Nat} {ret : Option FieldType} {pc n : Nat} {ls : List (Option AV)} {st : List AV} {μ : Mm} (hO : KOk PM Q K cc RX12 nL d ret) (hd : decode cc pc = .ok (.getfield 307, 3)) (hn : pc + 3 = n) (kk : AW K n ls (vI (μ.1 0 33) :: st) μ) : AW K pc ls (vR 0 :: st) μ := aw_get (f := 33) hO hd hn okX12 (by decide) (lw_t6 7 rfl rfl) (by decide) rfl rfl rfl kk
set_option maxRecDepth 100000 in
theorem pM_troublesMet {Q : Option AV → Mm → Prop} {K : KT} {cc : ByteArray} {nL d : Nat} {ret : Option FieldType} {pc n : Nat} {ls : List (Option AV)} {st : List AV} {μ : Mm} {a : Int} (hO : KOk PM Q K cc RX12 nL d ret) (hd : decode cc pc = .ok (.putfield 307, 3)) (hn : pc + 3 = n) (kk : AW K n ls st (mst μ 0 33 a)) : AW K pc ls (vI a :: vR 0 :: st) μ := aw_put (f := 33) hO hd hn okX12 tyX12_ok nmX12 (by decide) (lw_t6 7 rfl rfl) rfl rfl rfl (by decide) rfl rfl kk
set_option maxRecDepth 100000 in
theorem gM_kept {Q : Option AV → Mm → Prop} {K : KT} {cc : ByteArray} {nL d : Nat} {ret : Option FieldType} {pc n : Nat} {ls : List (Option AV)} {st : List AV} {μ : Mm} (hO : KOk PM Q K cc RX12 nL d ret) (hd : decode cc pc = .ok (.getfield 71, 3)) (hn : pc + 3 = n) (kk : AW K n ls (vR 19 :: st) μ) : AW K pc ls (vR 0 :: st) μ := aw_get (f := 34) hO hd hn okX12 (by decide) (lw_t6 8 rfl rfl) (by decide) rfl rfl rfl kk
set_option maxRecDepth 100000 in
theorem gM_acts {Q : Option AV → Mm → Prop} {K : KT} {cc : ByteArray} {nL d : Nat} {ret : Option FieldType} {pc n : Nat} {ls : List (Option AV)} {st : List AV} {μ : Mm} (hO : KOk PM Q K cc RX12 nL d ret) (hd : decode cc pc = .ok (.getfield 251, 3)) (hn : pc + 3 = n) (kk : AW K n ls (vI (μ.1 0 35) :: st) μ) : AW K pc ls (vR 0 :: st) μ := aw_get (f := 35) hO hd hn okX12 (by decide) (lw_t6 9 rfl rfl) (by decide) rfl rfl rfl kk
set_option maxRecDepth 100000 in
theorem pM_acts {Q : Option AV → Mm → Prop} {K : KT} {cc : ByteArray} {nL d : Nat} {ret : Option FieldType} {pc n : Nat} {ls : List (Option AV)} {st : List AV} {μ : Mm} {a : Int} (hO : KOk PM Q K cc RX12 nL d ret) (hd : decode cc pc = .ok (.putfield 251, 3)) (hn : pc + 3 = n) (kk : AW K n ls st (mst μ 0 35 a)) : AW K pc ls (vI a :: vR 0 :: st) μ := aw_put (f := 35) hO hd hn okX12 tyX12_ok nmX12 (by decide) (lw_t6 9 rfl rfl) rfl rfl rfl (by decide) rfl rfl kk
set_option maxRecDepth 100000 in
theorem gM_draws {Q : Option AV → Mm → Prop} {K : KT} {cc : ByteArray} {nL d : Nat} {ret : Option FieldType} {pc n : Nat} {ls : List (Option AV)} {st : List AV} {μ : Mm} (hO : KOk PM Q K cc RX12 nL d ret) (hd : decode cc pc = .ok (.getfield 343, 3)) (hn : pc + 3 = n) (kk : AW K n ls (vL μ.2.1 :: st) μ) : AW K pc ls (vR 0 :: st) μ := aw_get (f := 36) hO hd hn okX12 (by decide) (lw_t6 10 rfl rfl) (by decide) rfl rfl rfl kk
set_option maxRecDepth 100000 in
theorem gM_aside {Q : Option AV → Mm → Prop} {K : KT} {cc : ByteArray} {nL d : Nat} {ret : Option FieldType} {pc n : Nat} {ls : List (Option AV)} {st : List AV} {μ : Mm} (hO : KOk PM Q K cc RX12 nL d ret) (hd : decode cc pc = .ok (.getfield 74, 3)) (hn : pc + 3 = n) (kk : AW K n ls (vR 20 :: st) μ) : AW K pc ls (vR 0 :: st) μ := aw_get (f := 37) hO hd hn okX12 (by decide) (lw_t6 11 rfl rfl) (by decide) rfl rfl rfl kk
set_option maxRecDepth 100000 in
theorem gM_noteSet {Q : Option AV → Mm → Prop} {K : KT} {cc : ByteArray} {nL d : Nat} {ret : Option FieldType} {pc n : Nat} {ls : List (Option AV)} {st : List AV} {μ : Mm} (hO : KOk PM Q K cc RX12 nL d ret) (hd : decode cc pc = .ok (.getfield 77, 3)) (hn : pc + 3 = n) (kk : AW K n ls (vR 21 :: st) μ) : AW K pc ls (vR 0 :: st) μ := aw_get (f := 38) hO hd hn okX12 (by decide) (lw_t6 12 rfl rfl) (by decide) rfl rfl rfl kk
set_option maxRecDepth 100000 in
theorem gM_noteOne {Q : Option AV → Mm → Prop} {K : KT} {cc : ByteArray} {nL d : Nat} {ret : Option FieldType} {pc n : Nat} {ls : List (Option AV)} {st : List AV} {μ : Mm} (hO : KOk PM Q K cc RX12 nL d ret) (hd : decode cc pc = .ok (.getfield 80, 3)) (hn : pc + 3 = n) (kk : AW K n ls (vR 22 :: st) μ) : AW K pc ls (vR 0 :: st) μ := aw_get (f := 39) hO hd hn okX12 (by decide) (lw_t6 13 rfl rfl) (by decide) rfl rfl rfl kk
set_option maxRecDepth 100000 in
theorem gM_noteIs {Q : Option AV → Mm → Prop} {K : KT} {cc : ByteArray} {nL d : Nat} {ret : Option FieldType} {pc n : Nat} {ls : List (Option AV)} {st : List AV} {μ : Mm} (hO : KOk PM Q K cc RX12 nL d ret) (hd : decode cc pc = .ok (.getfield 83, 3)) (hn : pc + 3 = n) (kk : AW K n ls (vR 23 :: st) μ) : AW K pc ls (vR 0 :: st) μ := aw_get (f := 40) hO hd hn okX12 (by decide) (lw_t6 14 rfl rfl) (by decide) rfl rfl rfl kk
set_option maxRecDepth 100000 in
theorem gM_noted {Q : Option AV → Mm → Prop} {K : KT} {cc : ByteArray} {nL d : Nat} {ret : Option FieldType} {pc n : Nat} {ls : List (Option AV)} {st : List AV} {μ : Mm} (hO : KOk PM Q K cc RX12 nL d ret) (hd : decode cc pc = .ok (.getfield 248, 3)) (hn : pc + 3 = n) (kk : AW K n ls (vI (μ.1 0 41) :: st) μ) : AW K pc ls (vR 0 :: st) μ := aw_get (f := 41) hO hd hn okX12 (by decide) (lw_t6 15 rfl rfl) (by decide) rfl rfl rfl kk
set_option maxRecDepth 100000 in
theorem pM_noted {Q : Option AV → Mm → Prop} {K : KT} {cc : ByteArray} {nL d : Nat} {ret : Option FieldType} {pc n : Nat} {ls : List (Option AV)} {st : List AV} {μ : Mm} {a : Int} (hO : KOk PM Q K cc RX12 nL d ret) (hd : decode cc pc = .ok (.putfield 248, 3)) (hn : pc + 3 = n) (kk : AW K n ls st (mst μ 0 41 a)) : AW K pc ls (vI a :: vR 0 :: st) μ := aw_put (f := 41) hO hd hn okX12 tyX12_ok nmX12 (by decide) (lw_t6 15 rfl rfl) rfl rfl rfl (by decide) rfl rfl kk
set_option maxRecDepth 100000 in
theorem gM_bestRow {Q : Option AV → Mm → Prop} {K : KT} {cc : ByteArray} {nL d : Nat} {ret : Option FieldType} {pc n : Nat} {ls : List (Option AV)} {st : List AV} {μ : Mm} (hO : KOk PM Q K cc RX12 nL d ret) (hd : decode cc pc = .ok (.getfield 393, 3)) (hn : pc + 3 = n) (kk : AW K n ls (vI (μ.1 0 42) :: st) μ) : AW K pc ls (vR 0 :: st) μ := aw_get (f := 42) hO hd hn okX12 (by decide) (lw_t6 16 rfl rfl) (by decide) rfl rfl rfl kk
set_option maxRecDepth 100000 in
theorem pM_bestRow {Q : Option AV → Mm → Prop} {K : KT} {cc : ByteArray} {nL d : Nat} {ret : Option FieldType} {pc n : Nat} {ls : List (Option AV)} {st : List AV} {μ : Mm} {a : Int} (hO : KOk PM Q K cc RX12 nL d ret) (hd : decode cc pc = .ok (.putfield 393, 3)) (hn : pc + 3 = n) (kk : AW K n ls st (mst μ 0 42 a)) : AW K pc ls (vI a :: vR 0 :: st) μ := aw_put (f := 42) hO hd hn okX12 tyX12_ok nmX12 (by decide) (lw_t6 16 rfl rfl) rfl rfl rfl (by decide) rfl rfl kk
set_option maxRecDepth 100000 in
theorem gM_bestMany {Q : Option AV → Mm → Prop} {K : KT} {cc : ByteArray} {nL d : Nat} {ret : Option FieldType} {pc n : Nat} {ls : List (Option AV)} {st : List AV} {μ : Mm} (hO : KOk PM Q K cc RX12 nL d ret) (hd : decode cc pc = .ok (.getfield 396, 3)) (hn : pc + 3 = n) (kk : AW K n ls (vI (μ.1 0 43) :: st) μ) : AW K pc ls (vR 0 :: st) μ := aw_get (f := 43) hO hd hn okX12 (by decide) (lw_t6 17 rfl rfl) (by decide) rfl rfl rfl kk
set_option maxRecDepth 100000 in
theorem pM_bestMany {Q : Option AV → Mm → Prop} {K : KT} {cc : ByteArray} {nL d : Nat} {ret : Option FieldType} {pc n : Nat} {ls : List (Option AV)} {st : List AV} {μ : Mm} {a : Int} (hO : KOk PM Q K cc RX12 nL d ret) (hd : decode cc pc = .ok (.putfield 396, 3)) (hn : pc + 3 = n) (kk : AW K n ls st (mst μ 0 43 a)) : AW K pc ls (vI a :: vR 0 :: st) μ := aw_put (f := 43) hO hd hn okX12 tyX12_ok nmX12 (by decide) (lw_t6 17 rfl rfl) rfl rfl rfl (by decide) rfl rfl kk
set_option maxRecDepth 100000 in
theorem gM_image {Q : Option AV → Mm → Prop} {K : KT} {cc : ByteArray} {nL d : Nat} {ret : Option FieldType} {pc n : Nat} {ls : List (Option AV)} {st : List AV} {μ : Mm} (hO : KOk PM Q K cc RX12 nL d ret) (hd : decode cc pc = .ok (.getfield 87, 3)) (hn : pc + 3 = n) (kk : AW K n ls (vR 24 :: st) μ) : AW K pc ls (vR 0 :: st) μ := aw_get (f := 44) hO hd hn okX12 (by decide) (lw_t6 18 rfl rfl) (by decide) rfl rfl rfl kk
set_option maxRecDepth 100000 in
theorem gM_hasImage {Q : Option AV → Mm → Prop} {K : KT} {cc : ByteArray} {nL d : Nat} {ret : Option FieldType} {pc n : Nat} {ls : List (Option AV)} {st : List AV} {μ : Mm} (hO : KOk PM Q K cc RX12 nL d ret) (hd : decode cc pc = .ok (.getfield 254, 3)) (hn : pc + 3 = n) (kk : AW K n ls (vI (μ.1 0 45) :: st) μ) : AW K pc ls (vR 0 :: st) μ := aw_get (f := 45) hO hd hn okX12 (by decide) (lw_t6 19 rfl rfl) (by decide) rfl rfl rfl kk
