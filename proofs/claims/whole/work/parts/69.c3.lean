/-! ## the small methods of the class, said of the reference's memory -/
theorem if_iff {p q : Prop} [Decidable p] [Decidable q] {α : Type} {a b : α} (h : p ↔ q) : (if p then a else b) = if q then a else b := by
  by_cases e : p
  · rw [if_pos e, if_pos (h.mp e)]
  · rw [if_neg e, if_neg (fun z => e (h.mpr z))]
theorem JR.ob {μ ν : Mm} {s : Nat} (h : JR μ s ν) : Sob s := h.1.ob
theorem JR.G {μ ν : Mm} {s : Nat} (h : JR μ s ν) : MG ν := h.2.1
theorem JR.B {μ ν : Mm} {s : Nat} (h : JR μ s ν) : MB ν := h.2.1.1
theorem JR.T {μ ν : Mm} {s : Nat} (h : JR μ s ν) : TR μ ν := h.2.2.1
theorem JR.H {μ ν : Mm} {s : Nat} (h : JR μ s ν) : HR μ ν := h.2.2.2.1
theorem JR.S {μ ν : Mm} {s : Nat} (h : JR μ s ν) : SR (μ.1 (s + 1)) (ν.1 17) := h.2.2.2.2
/-- the town alone -/
def JR0 (μ ν : Mm) : Prop := MB ν ∧ TR μ ν
theorem JR0.B {μ ν : Mm} (h : JR0 μ ν) : MB ν := h.1
theorem JR0.T {μ ν : Mm} (h : JR0 μ ν) : TR μ ν := h.2
theorem JR.z {μ ν : Mm} {s : Nat} (h : JR μ s ν) : JR0 μ ν := ⟨h.B, h.T⟩
theorem cJ_isAway {μ : Mm} {s : Nat} {G : Nat → Int} (hs : Sob s) (h : SR (μ.1 (s + 1)) G) (p : Nat) : CtI PC 0 yX7_isAway cX7_isAway 2 (some .boolean) [vR s, vI ((p : Nat) : Int)] μ (if hasB (G 31) p = true then 1 else 0) := by
  have e := ctC_7_isAway μ hs p
  rw [h.aw] at e
  exact e
theorem cJ_meetings {μ : Mm} {s : Nat} {G : Nat → Int} (hs : Sob s) (h : SR (μ.1 (s + 1)) G) {p : Nat} (hp : p < 6) : CtI PC 0 yX7_meetings cX7_meetings 2 (some .int) [vR s, vI ((p : Nat) : Int)] μ (G p) := by
  have e := ctC_7_meetings μ hs hp
  rw [h.met hp] at e
  exact e
theorem cJ_chains {μ : Mm} {s : Nat} {G : Nat → Int} (hs : Sob s) (h : SR (μ.1 (s + 1)) G) {p : Nat} (hp : p < 6) : CtI PC 0 yX7_chains cX7_chains 2 (some .int) [vR s, vI ((p : Nat) : Int)] μ (G (18 + p)) := by
  have e := ctC_7_chains μ hs hp
  rw [h.cha hp] at e
  exact e
theorem cJ_asks {μ : Mm} {s : Nat} {G : Nat → Int} (hs : Sob s) (h : SR (μ.1 (s + 1)) G) {p : Nat} (hp : p < 5) : CtI PC 0 yX7_asks cX7_asks 2 (some .int) [vR s, vI ((p : Nat) : Int)] μ (G (24 + p)) := by
  have e := ctC_7_asks μ hs hp
  rw [h.ask hp] at e
  exact e
theorem cJ_feigned {μ : Mm} {s : Nat} {G : Nat → Int} (hs : Sob s) (h : SR (μ.1 (s + 1)) G) {p t : Nat} (hp : p < 6) (ht : t < 2) : CtI PC 0 yX7_feigned cX7_feigned 3 (some .int) [vR s, vI ((p : Nat) : Int), vI ((t : Nat) : Int)] μ (G (6 + 2 * p + t)) := by
  have e := ctC_7_feigned μ hs hp ht
  rw [h.fei hp ht] at e
  exact e
theorem cJ_liking {μ ν : Mm} (h : JR0 μ ν) {k : Nat} (hk : k < 4) : CtI PC 0 yX9_liking cX9_liking 2 (some .int) [vR 25, vI ((k : Nat) : Int)] μ (ν.1 14 k) := by
  have e := ctC_9_liking μ hk
  rw [h.T.ru hk] at e
  exact e
theorem cJ_coins {μ ν : Mm} (h : JR0 μ ν)  : CtI PC 0 yX9_coins cX9_coins 1 (some .int) [vR 25] μ (ν.1 14 3) := by
  have e := ctC_9_coins μ
  rw [h.T.ru (k := 3) (by decide)] at e
  exact e
theorem cJ_trait {μ ν : Mm} (h : JR0 μ ν) {p k : Nat} (hp : (p : Int) < ν.1 0 25) (hk : k < 4) : CtI PC 0 yX9_trait cX9_trait 3 (some .int) [vR 25, vI ((p : Nat) : Int), vI ((k : Nat) : Int)] μ (ν.1 15 (4 * p + k)) := by
  have e := ctC_9_trait μ (p := p) (k := k) (by have := h.B.np; omega) hk
  rw [h.T.pe hp hk] at e
  exact e
theorem cJ_door {μ ν : Mm} (h : JR0 μ ν) {p : Nat} (hp : (p : Int) < ν.1 0 25) : CtI PC 0 yX9_door cX9_door 2 (some .int) [vR 25, vI ((p : Nat) : Int)] μ (ν.1 15 (4 * p + 3)) := by
  have e := ctC_9_door μ (p := p) (by have := h.B.np; omega)
  rw [h.T.pe hp (k := 3) (by decide)] at e
  exact e
theorem cJ_asksFor {μ ν : Mm} (h : JR0 μ ν) {t : Nat} (ht : (t : Int) < ν.1 0 26) : CtI PC 0 yX9_asksFor cX9_asksFor 2 (some .int) [vR 25, vI ((t : Nat) : Int)] μ (ν.1 16 (3 * t)) := by
  have e := ctC_9_asksFor μ (p := t) (by have := h.B.nt; omega)
  rw [show μ.1 26 (28 + 4 * t) = ν.1 16 (3 * t) from h.T.tr ht (k := 0) (by decide)] at e
  exact e
theorem cJ_asksAtFirst {μ ν : Mm} (h : JR0 μ ν) {t : Nat} (ht : (t : Int) < ν.1 0 26) : CtI PC 0 yX9_asksAtFirst cX9_asksAtFirst 2 (some .int) [vR 25, vI ((t : Nat) : Int)] μ (ν.1 16 (3 * t + 1)) := by
  have e := ctC_9_asksAtFirst μ (p := t) (by have := h.B.nt; omega)
  rw [h.T.tr ht (k := 1) (by decide)] at e
  exact e
theorem cJ_gravity {μ ν : Mm} (h : JR0 μ ν) {t : Nat} (ht : (t : Int) < ν.1 0 26) : CtI PC 0 yX9_gravity cX9_gravity 2 (some .int) [vR 25, vI ((t : Nat) : Int)] μ (ν.1 16 (3 * t + 2)) := by
  have e := ctC_9_gravity μ (p := t) (by have := h.B.nt; omega)
  rw [h.T.tr ht (k := 2) (by decide)] at e
  exact e
theorem cJ_isTold {μ ν : Mm} (h : JR0 μ ν)  : CtI PC 0 yX9_isTold cX9_isTold 1 (some .boolean) [vR 25] μ (if ν.1 0 25 ≠ 0 then 1 else 0) := by
  have e := ctC_9_isTold μ (by rw [h.T.n]; exact h.B.np)
  rw [h.T.n] at e
  exact e
theorem cJ_hasPerson {μ ν : Mm} (h : JR0 μ ν) {v : Int} (hv : InR v) : CtI PC 0 yX9_hasPerson cX9_hasPerson 2 (some .boolean) [vR 25, vI v] μ (if 0 ≤ v ∧ v < ν.1 0 25 then 1 else 0) := by
  have e := ctC_9_hasPerson μ (by rw [h.T.n]; exact h.B.np) hv
  rw [h.T.n] at e
  exact e
theorem cJ_hasTrouble {μ ν : Mm} (h : JR0 μ ν) {v : Int} (hv : InR v) : CtI PC 0 yX9_hasTrouble cX9_hasTrouble 2 (some .boolean) [vR 25, vI v] μ (if 0 ≤ v ∧ v < ν.1 0 26 then 1 else 0) := by
  have e := ctC_9_hasTrouble μ (by rw [h.T.t]; have := h.B.nt; omega) hv
  rw [h.T.t] at e
  exact e
theorem cJ_allPersons {μ ν : Mm} (h : JR0 μ ν)  : CtI PC 0 yX9_allPersons cX9_allPersons 1 (some .int) [vR 25] μ (bShl 1 (ν.1 0 25) - 1) := by
  have e := ctC_9_allPersons μ
  rw [h.T.n] at e
  exact e
theorem cJ_allTroubles {μ ν : Mm} (h : JR0 μ ν)  : CtI PC 0 yX9_allTroubles cX9_allTroubles 1 (some .int) [vR 25] μ (bShl 1 (ν.1 0 26) - 1) := by
  have e := ctC_9_allTroubles μ
  rw [h.T.t] at e
  exact e
theorem cJ_metBits {μ : Mm} {s : Nat} {G : Nat → Int} (hs : Sob s) (h : SR (μ.1 (s + 1)) G) (hN : NowOK G) : CtI PC 0 yX7_metBits cX7_metBits 3 (some .int) [vR s] μ (metO (G) 6) := by
  have e := ctC_7_metBits μ hs (fun p hp => by rw [h.met hp]; exact hN.met hp)
  rw [metO_congr (g := G) 6 (fun p hp => h.met hp)] at e
  exact e
theorem cJ_canFeign {μ : Mm} {s : Nat} {G : Nat → Int} (hs : Sob s) (h : SR (μ.1 (s + 1)) G) (hN : NowOK G) {p t : Nat} (hp : p < 6) (ht : t < 2) : CtI PC 1 yX7_canFeign cX7_canFeign 3 (some .boolean) [vR s, vI ((p : Nat) : Int), vI ((t : Nat) : Int)] μ (if hasB (G 31) p = false ∧ G (6 + 2 * p + t) < 3 then 1 else 0) := by
  have e := ctC_7_canFeign μ hs hp ht (by rw [h.fei hp ht]; exact hN.fei (by omega) (by omega))
  rw [h.aw, h.fei hp ht] at e
  exact e
theorem dX3_seeming_0 : decode cX3_seeming 0 = .ok (.aload_n 0, 1) := by decide +kernel
theorem dX3_seeming_1 : decode cX3_seeming 1 = .ok (.getfield 32, 3) := by decide +kernel
theorem dX3_seeming_4 : decode cX3_seeming 4 = .ok (.iload_n 2, 1) := by decide +kernel
theorem dX3_seeming_5 : decode cX3_seeming 5 = .ok (.iload_n 3, 1) := by decide +kernel
theorem dX3_seeming_6 : decode cX3_seeming 6 = .ok (.invokevirtual 36, 3) := by decide +kernel
theorem dX3_seeming_9 : decode cX3_seeming 9 = .ok (.istore 4, 2) := by decide +kernel
theorem dX3_seeming_11 : decode cX3_seeming 11 = .ok (.iload_n 3, 1) := by decide +kernel
theorem dX3_seeming_12 : decode cX3_seeming 12 = .ok (.iconst 2, 1) := by decide +kernel
theorem dX3_seeming_13 : decode cX3_seeming 13 = .ok (.if_icmp .ne 6, 3) := by decide +kernel
theorem dX3_seeming_16 : decode cX3_seeming 16 = .ok (.iload 4, 2) := by decide +kernel
theorem dX3_seeming_18 : decode cX3_seeming 18 = .ok (.ireturn, 1) := by decide +kernel
theorem dX3_seeming_19 : decode cX3_seeming 19 = .ok (.iload 4, 2) := by decide +kernel
theorem dX3_seeming_21 : decode cX3_seeming 21 = .ok (.iconst 2, 1) := by decide +kernel
theorem dX3_seeming_22 : decode cX3_seeming 22 = .ok (.aload_n 1, 1) := by decide +kernel
theorem dX3_seeming_23 : decode cX3_seeming 23 = .ok (.iload_n 2, 1) := by decide +kernel
theorem dX3_seeming_24 : decode cX3_seeming 24 = .ok (.iload_n 3, 1) := by decide +kernel
theorem dX3_seeming_25 : decode cX3_seeming 25 = .ok (.invokevirtual 42, 3) := by decide +kernel
theorem dX3_seeming_28 : decode cX3_seeming 28 = .ok (.imul, 1) := by decide +kernel
theorem dX3_seeming_29 : decode cX3_seeming 29 = .ok (.iadd, 1) := by decide +kernel
theorem dX3_seeming_30 : decode cX3_seeming 30 = .ok (.i2l, 1) := by decide +kernel
theorem dX3_seeming_31 : decode cX3_seeming 31 = .ok (.bipush 9, 2) := by decide +kernel
theorem dX3_seeming_33 : decode cX3_seeming 33 = .ok (.invokestatic 47, 3) := by decide +kernel
theorem dX3_seeming_36 : decode cX3_seeming 36 = .ok (.ireturn, 1) := by decide +kernel
set_option maxRecDepth 100000 in
theorem gC_X3_32_73 {Q : Option AV → Mm → Prop} {K : KT} {cc : ByteArray} {nL d : Nat} {ret : Option FieldType} {pc n : Nat} {ls : List (Option AV)} {st : List AV} {μ : Mm} (hO : KOk PC Q K cc RX3 nL d ret) (hd : decode cc pc = .ok (.getfield 32, 3)) (hn : pc + 3 = n) (kk : AW K n ls (vR 25 :: st) μ) : AW K pc ls (vR 73 :: st) μ := aw_get (f := 0) hO hd hn okX3 (by decide) (lw_t1 194 rfl rfl) (by decide) rfl rfl rfl kk
set_option maxHeartbeats 4000000 in
set_option maxRecDepth 100000 in
theorem cJ_seeming {μ ν : Mm} {s : Nat} (h : JR μ s ν) {p k : Nat} (hp : (p : Int) < ν.1 0 25) (hk : k < 3) : CtI PC 1 yX3_seeming cX3_seeming 5 (some .int) [vR 73, vR s, vI ((p : Nat) : Int), vI ((k : Nat) : Int)] μ (seemsM ν p k) := by
  refine ct_intro [some (vR 73), some (vR s), some (vI ((p : Nat) : Int)), some (vI ((k : Nat) : Int)), none] RX3 (by decide) rfl XCo rfl (Nat.le_of_ble_eq_true rfl) (fun K hO => ?_)
  have hs := h.ob
  have hnp := h.B.np
  have hnt := h.B.nt
  have hb1 := h.B.per (p := p) (k := k) (by omega) (by omega)
  refine aw_aload_n hO dX3_seeming_0 rfl rfl ?_
  refine gC_X3_32_73 hO dX3_seeming_1 rfl ?_
  refine aw_iload_n hO dX3_seeming_4 rfl rfl ?_
  refine aw_iload_n hO dX3_seeming_5 rfl rfl ?_
  refine aw_callVI (as := [vI ((p : Nat) : Int), vI ((k : Nat) : Int)]) (st := []) hO dX3_seeming_6 rfl (lw_t3 192 rfl rfl) kX9_trait (T := TX9) rfl (by decide) rfl (cJ_trait h.z (p := p) (k := k) (by omega) (by omega)) (by decide) rfl rfl rfl (Nat.le_of_ble_eq_true rfl) ?_
  refine aw_istore (ls' := [some (vR 73), some (vR s), some (vI ((p : Nat) : Int)), some (vI ((k : Nat) : Int)), some (vI (ν.1 15 (4 * p + k)))]) hO dX3_seeming_9 rfl (Nat.le_of_ble_eq_true rfl) rfl rfl ?_
  refine aw_iload_n hO dX3_seeming_11 rfl rfl ?_
  refine aw_iconst hO dX3_seeming_12 rfl ?_
  refine aw_icmp_ne (tgt := 19) hO dX3_seeming_13 rfl rfl (inRn (by omega)) (inRlit _) (fun c13 => ?_) (fun c13 => ?_)
  · have hb2 := h.B.now.fei (j := 6 + 2 * p + k) (by omega) (by omega)
    refine aw_iload hO dX3_seeming_19 rfl rfl ?_
    refine aw_iconst hO dX3_seeming_21 rfl ?_
    refine aw_aload_n hO dX3_seeming_22 rfl rfl ?_
    refine aw_iload_n hO dX3_seeming_23 rfl rfl ?_
    refine aw_iload_n hO dX3_seeming_24 rfl rfl ?_
    refine aw_callVI (as := [vI ((p : Nat) : Int), vI ((k : Nat) : Int)]) (st := [vI 2, vI (ν.1 15 (4 * p + k))]) hO dX3_seeming_25 rfl (lw_t3 196 rfl rfl) kX7_feigned (T := TX7) rfl hs.1 hs.2.1 (cJ_feigned h.ob h.S (p := p) (t := k) (by omega) (by omega)) (by decide) rfl rfl rfl (Nat.le_of_ble_eq_true rfl) ?_
    refine aw_imul hO dX3_seeming_28 rfl ?_
    refine aw_iadd hO dX3_seeming_29 rfl ?_
    refine aw_i2l hO dX3_seeming_30 rfl ⟨by omega, by omega⟩ ?_
    refine aw_bipush hO dX3_seeming_31 rfl (by decide) (by decide) ?_
    refine aw_callSNI (as := [vL ((ν.1 15 (4 * p + k)) + (2 * (ν.1 17 (6 + 2 * p + k)))), vI 9]) (st := []) hO dX3_seeming_33 rfl (lw_t3n 197 rfl rfl) kX11_within (ctC_within μ (v := ((ν.1 15 (4 * p + k)) + (2 * (ν.1 17 (6 + 2 * p + k))))) (m := 9) ⟨by omega, by omega⟩ (by omega) (by omega)) (by decide) rfl rfl rfl (Nat.le_of_ble_eq_true rfl) ?_
    refine aw_iret hO dX3_seeming_36 ?_
    exact rI (by unfold seemsM clampI; rw [if_neg (by omega)]; omega)
  · refine aw_iload hO dX3_seeming_16 rfl rfl ?_
    refine aw_iret hO dX3_seeming_18 ?_
    exact rI (by unfold seemsM; rw [if_pos (by omega), show k = 2 by omega])
theorem seemsM_R {ν : Mm} (h : MB ν) {p k : Nat} (hp : p < 6) (hk : k < 3) : 0 ≤ seemsM ν p k ∧ seemsM ν p k ≤ 99 := by
  unfold seemsM
  have h1 := h.per (p := p) (k := 2) hp (by decide)
  have h2 := h.per (p := p) (k := k) hp (by omega)
  split
  · exact h1
  · have h3 := h.now.fei (j := 6 + 2 * p + k) (by omega) (by omega)
    omega
theorem mulB {a b A B : Int} (h1 : 0 ≤ a) (h2 : a ≤ A) (h3 : 0 ≤ b) (h4 : b ≤ B) : 0 ≤ a * b ∧ a * b ≤ A * B := ⟨Int.mul_nonneg h1 h3, Int.mul_le_mul h2 h4 h3 (by omega)⟩
theorem dX3_appealOf_0 : decode cX3_appealOf 0 = .ok (.aload_n 0, 1) := by decide +kernel
theorem dX3_appealOf_1 : decode cX3_appealOf 1 = .ok (.aload_n 1, 1) := by decide +kernel
theorem dX3_appealOf_2 : decode cX3_appealOf 2 = .ok (.iload_n 2, 1) := by decide +kernel
theorem dX3_appealOf_3 : decode cX3_appealOf 3 = .ok (.iconst 0, 1) := by decide +kernel
theorem dX3_appealOf_4 : decode cX3_appealOf 4 = .ok (.invokevirtual 51, 3) := by decide +kernel
theorem dX3_appealOf_7 : decode cX3_appealOf 7 = .ok (.istore_n 3, 1) := by decide +kernel
theorem dX3_appealOf_8 : decode cX3_appealOf 8 = .ok (.aload_n 0, 1) := by decide +kernel
theorem dX3_appealOf_9 : decode cX3_appealOf 9 = .ok (.aload_n 1, 1) := by decide +kernel
theorem dX3_appealOf_10 : decode cX3_appealOf 10 = .ok (.iload_n 2, 1) := by decide +kernel
theorem dX3_appealOf_11 : decode cX3_appealOf 11 = .ok (.iconst 1, 1) := by decide +kernel
theorem dX3_appealOf_12 : decode cX3_appealOf 12 = .ok (.invokevirtual 51, 3) := by decide +kernel
theorem dX3_appealOf_15 : decode cX3_appealOf 15 = .ok (.istore 4, 2) := by decide +kernel
theorem dX3_appealOf_17 : decode cX3_appealOf 17 = .ok (.aload_n 0, 1) := by decide +kernel
theorem dX3_appealOf_18 : decode cX3_appealOf 18 = .ok (.aload_n 1, 1) := by decide +kernel
theorem dX3_appealOf_19 : decode cX3_appealOf 19 = .ok (.iload_n 2, 1) := by decide +kernel
theorem dX3_appealOf_20 : decode cX3_appealOf 20 = .ok (.iconst 2, 1) := by decide +kernel
theorem dX3_appealOf_21 : decode cX3_appealOf 21 = .ok (.invokevirtual 51, 3) := by decide +kernel
theorem dX3_appealOf_24 : decode cX3_appealOf 24 = .ok (.istore 5, 2) := by decide +kernel
theorem dX3_appealOf_26 : decode cX3_appealOf 26 = .ok (.aload_n 0, 1) := by decide +kernel
theorem dX3_appealOf_27 : decode cX3_appealOf 27 = .ok (.getfield 28, 3) := by decide +kernel
theorem dX3_appealOf_30 : decode cX3_appealOf 30 = .ok (.ifnonnull 48, 3) := by decide +kernel
theorem dX3_appealOf_33 : decode cX3_appealOf 33 = .ok (.aload_n 0, 1) := by decide +kernel
theorem dX3_appealOf_34 : decode cX3_appealOf 34 = .ok (.getfield 32, 3) := by decide +kernel
theorem dX3_appealOf_37 : decode cX3_appealOf 37 = .ok (.iconst 0, 1) := by decide +kernel
theorem dX3_appealOf_38 : decode cX3_appealOf 38 = .ok (.invokevirtual 55, 3) := by decide +kernel
theorem dX3_appealOf_41 : decode cX3_appealOf 41 = .ok (.iload_n 3, 1) := by decide +kernel
theorem dX3_appealOf_42 : decode cX3_appealOf 42 = .ok (.imul, 1) := by decide +kernel
theorem dX3_appealOf_43 : decode cX3_appealOf 43 = .ok (.aload_n 0, 1) := by decide +kernel
theorem dX3_appealOf_44 : decode cX3_appealOf 44 = .ok (.getfield 32, 3) := by decide +kernel
theorem dX3_appealOf_47 : decode cX3_appealOf 47 = .ok (.iconst 1, 1) := by decide +kernel
theorem dX3_appealOf_48 : decode cX3_appealOf 48 = .ok (.invokevirtual 55, 3) := by decide +kernel
theorem dX3_appealOf_51 : decode cX3_appealOf 51 = .ok (.iload 4, 2) := by decide +kernel
theorem dX3_appealOf_53 : decode cX3_appealOf 53 = .ok (.imul, 1) := by decide +kernel
theorem dX3_appealOf_54 : decode cX3_appealOf 54 = .ok (.iadd, 1) := by decide +kernel
theorem dX3_appealOf_55 : decode cX3_appealOf 55 = .ok (.istore 6, 2) := by decide +kernel
theorem dX3_appealOf_57 : decode cX3_appealOf 57 = .ok (.iload 6, 2) := by decide +kernel
theorem dX3_appealOf_59 : decode cX3_appealOf 59 = .ok (.aload_n 0, 1) := by decide +kernel
theorem dX3_appealOf_60 : decode cX3_appealOf 60 = .ok (.getfield 32, 3) := by decide +kernel
theorem dX3_appealOf_63 : decode cX3_appealOf 63 = .ok (.iconst 2, 1) := by decide +kernel
theorem dX3_appealOf_64 : decode cX3_appealOf 64 = .ok (.invokevirtual 55, 3) := by decide +kernel
theorem dX3_appealOf_67 : decode cX3_appealOf 67 = .ok (.iload 5, 2) := by decide +kernel
theorem dX3_appealOf_69 : decode cX3_appealOf 69 = .ok (.imul, 1) := by decide +kernel
theorem dX3_appealOf_70 : decode cX3_appealOf 70 = .ok (.isub, 1) := by decide +kernel
theorem dX3_appealOf_71 : decode cX3_appealOf 71 = .ok (.i2l, 1) := by decide +kernel
theorem dX3_appealOf_72 : decode cX3_appealOf 72 = .ok (.bipush 99, 2) := by decide +kernel
theorem dX3_appealOf_74 : decode cX3_appealOf 74 = .ok (.invokestatic 47, 3) := by decide +kernel
theorem dX3_appealOf_77 : decode cX3_appealOf 77 = .ok (.ireturn, 1) := by decide +kernel
theorem dX3_appealOf_78 : decode cX3_appealOf 78 = .ok (.aload_n 0, 1) := by decide +kernel
theorem dX3_appealOf_79 : decode cX3_appealOf 79 = .ok (.getfield 19, 3) := by decide +kernel
theorem dX3_appealOf_82 : decode cX3_appealOf 82 = .ok (.iconst 0, 1) := by decide +kernel
theorem dX3_appealOf_83 : decode cX3_appealOf 83 = .ok (.iload_n 3, 1) := by decide +kernel
theorem dX3_appealOf_84 : decode cX3_appealOf 84 = .ok (.iastore, 1) := by decide +kernel
theorem dX3_appealOf_85 : decode cX3_appealOf 85 = .ok (.aload_n 0, 1) := by decide +kernel
theorem dX3_appealOf_86 : decode cX3_appealOf 86 = .ok (.getfield 19, 3) := by decide +kernel
theorem dX3_appealOf_89 : decode cX3_appealOf 89 = .ok (.iconst 1, 1) := by decide +kernel
theorem dX3_appealOf_90 : decode cX3_appealOf 90 = .ok (.iload 4, 2) := by decide +kernel
theorem dX3_appealOf_92 : decode cX3_appealOf 92 = .ok (.iastore, 1) := by decide +kernel
theorem dX3_appealOf_93 : decode cX3_appealOf 93 = .ok (.aload_n 0, 1) := by decide +kernel
theorem dX3_appealOf_94 : decode cX3_appealOf 94 = .ok (.getfield 19, 3) := by decide +kernel
theorem dX3_appealOf_97 : decode cX3_appealOf 97 = .ok (.iconst 2, 1) := by decide +kernel
theorem dX3_appealOf_98 : decode cX3_appealOf 98 = .ok (.iload 5, 2) := by decide +kernel
theorem dX3_appealOf_100 : decode cX3_appealOf 100 = .ok (.iastore, 1) := by decide +kernel
theorem dX3_appealOf_101 : decode cX3_appealOf 101 = .ok (.aload_n 0, 1) := by decide +kernel
theorem dX3_appealOf_102 : decode cX3_appealOf 102 = .ok (.getfield 19, 3) := by decide +kernel
theorem dX3_appealOf_105 : decode cX3_appealOf 105 = .ok (.iconst 3, 1) := by decide +kernel
theorem dX3_appealOf_106 : decode cX3_appealOf 106 = .ok (.aload_n 1, 1) := by decide +kernel
theorem dX3_appealOf_107 : decode cX3_appealOf 107 = .ok (.iload_n 2, 1) := by decide +kernel
theorem dX3_appealOf_108 : decode cX3_appealOf 108 = .ok (.invokevirtual 59, 3) := by decide +kernel
theorem dX3_appealOf_111 : decode cX3_appealOf 111 = .ok (.iastore, 1) := by decide +kernel
theorem dX3_appealOf_112 : decode cX3_appealOf 112 = .ok (.aload_n 0, 1) := by decide +kernel
theorem dX3_appealOf_113 : decode cX3_appealOf 113 = .ok (.getfield 19, 3) := by decide +kernel
theorem dX3_appealOf_116 : decode cX3_appealOf 116 = .ok (.iconst 4, 1) := by decide +kernel
theorem dX3_appealOf_117 : decode cX3_appealOf 117 = .ok (.aload_n 1, 1) := by decide +kernel
theorem dX3_appealOf_118 : decode cX3_appealOf 118 = .ok (.iload_n 2, 1) := by decide +kernel
theorem dX3_appealOf_119 : decode cX3_appealOf 119 = .ok (.invokevirtual 62, 3) := by decide +kernel
theorem dX3_appealOf_122 : decode cX3_appealOf 122 = .ok (.iastore, 1) := by decide +kernel
theorem dX3_appealOf_123 : decode cX3_appealOf 123 = .ok (.aload_n 0, 1) := by decide +kernel
theorem dX3_appealOf_124 : decode cX3_appealOf 124 = .ok (.getfield 19, 3) := by decide +kernel
theorem dX3_appealOf_127 : decode cX3_appealOf 127 = .ok (.iconst 5, 1) := by decide +kernel
theorem dX3_appealOf_128 : decode cX3_appealOf 128 = .ok (.aload_n 1, 1) := by decide +kernel
theorem dX3_appealOf_129 : decode cX3_appealOf 129 = .ok (.getfield 65, 3) := by decide +kernel
theorem dX3_appealOf_132 : decode cX3_appealOf 132 = .ok (.bipush 6, 2) := by decide +kernel
theorem dX3_appealOf_134 : decode cX3_appealOf 134 = .ok (.iaload, 1) := by decide +kernel
theorem dX3_appealOf_135 : decode cX3_appealOf 135 = .ok (.bipush 100, 2) := by decide +kernel
theorem dX3_appealOf_137 : decode cX3_appealOf 137 = .ok (.irem, 1) := by decide +kernel
theorem dX3_appealOf_138 : decode cX3_appealOf 138 = .ok (.iastore, 1) := by decide +kernel
theorem dX3_appealOf_139 : decode cX3_appealOf 139 = .ok (.aload_n 0, 1) := by decide +kernel
theorem dX3_appealOf_140 : decode cX3_appealOf 140 = .ok (.getfield 28, 3) := by decide +kernel
theorem dX3_appealOf_143 : decode cX3_appealOf 143 = .ok (.aload_n 0, 1) := by decide +kernel
theorem dX3_appealOf_144 : decode cX3_appealOf 144 = .ok (.getfield 19, 3) := by decide +kernel
theorem dX3_appealOf_147 : decode cX3_appealOf 147 = .ok (.invokevirtual 68, 3) := by decide +kernel
theorem dX3_appealOf_150 : decode cX3_appealOf 150 = .ok (.i2l, 1) := by decide +kernel
theorem dX3_appealOf_151 : decode cX3_appealOf 151 = .ok (.bipush 99, 2) := by decide +kernel
theorem dX3_appealOf_153 : decode cX3_appealOf 153 = .ok (.invokestatic 47, 3) := by decide +kernel
theorem dX3_appealOf_156 : decode cX3_appealOf 156 = .ok (.ireturn, 1) := by decide +kernel
theorem Lob.of {j : Nat} (h : j < 4) : Lob (13 + 3 * j) := by unfold Lob; omega
theorem ltM_R {ν : Mm} (h : MB ν) {p : Nat} (hp : p < 6) : ∀ i, i < 6 → -1000000 ≤ ltM ν p i ∧ ltM ν p i ≤ 1000000 := by
  intro i hi
  have a0 := seemsM_R h (p := p) (k := 0) hp (by decide)
  have a1 := seemsM_R h (p := p) (k := 1) hp (by decide)
  have a2 := h.per (p := p) (k := 2) hp (by decide)
  have a3 := h.now.met hp
  have a4 := h.now.cha (j := 18 + p) (by omega) (by omega)
  have a5 := h.now.rest
  unfold ltM
  split <;> omega
theorem evs_lt {lt lt' : Nat → Int} (h : ∀ i, i < 6 → lt i = lt' i) : ∀ (ts : List Tok) (n m : Nat) (s : List Int), okL ts n m → evs lt ts s = evs lt' ts s
  | [], _, _, _, _ => rfl
  | t :: ts, n, m, s, ho => by
    show evs lt ts (ev1 lt s t) = evs lt' ts (ev1 lt' s t)
    rw [ev1_lt h ho.1]
    exact evs_lt h ts _ m _ ho.2.2.2.2
theorem worthL_lt {lt lt' : Nat → Int} (h : ∀ i, i < 6 → lt i = lt' i) : ∀ {l : List Cl}, (∀ c ∈ l, WC c) → worthL lt l = worthL lt' l
  | [], _ => rfl
  | (none, s) :: r, hW => by
    rw [worthL_n, worthL_n, evs_lt h s 0 1 [] ((hW _ List.mem_cons_self).2.1 0 (by decide))]
  | (some t, s) :: r, hW => by
    have w1 := hW _ List.mem_cons_self
    have e1 := evs_lt h t 0 1 [] ((w1.1 t rfl).1 0 (by decide))
    have e2 := evs_lt h s 0 1 [] (w1.2.1 0 (by decide))
    by_cases e : (evs lt t []).headD 0 = 0
    · rw [worthL_f e, worthL_f (by rw [← e1]; exact e), worthL_lt h (fun c hc => hW c (List.mem_cons_of_mem _ hc))]
    · rw [worthL_t e, worthL_t (by rw [← e1]; exact e), e2]
theorem aw_ifnonnullN {P : LPk} {Q : Option AV → Mm → Prop} {K : KT} {cc : ByteArray} {own : String} {nL d : Nat} {ret : Option FieldType} {pc n : Nat} {ls : List (Option AV)} {st : List AV} {μ : Mm} {off : Int} (hO : KOk P Q K cc own nL d ret) (hd : decode cc pc = .ok (.ifnonnull off, 3)) (hn : pc + 3 = n) (kk : AW K n ls st μ) : AW K pc ls (vN :: st) μ := by
  subst hn
  intro H locs Ls hP hS hl
  exact lv_ifnonnullN hO.1.1 hO.1.2.1 hd (kk H locs Ls hP hS hl)
theorem aw_ifnonnullR {P : LPk} {Q : Option AV → Mm → Prop} {K : KT} {cc : ByteArray} {own : String} {nL d : Nat} {ret : Option FieldType} {pc k : Nat} {ls : List (Option AV)} {st : List AV} {μ : Mm} {off : Int} {tgt : Nat} (hO : KOk P Q K cc own nL d ret) (hd : decode cc pc = .ok (.ifnonnull off, 3)) (ht : (pc : Int) + off = (tgt : Int)) (kk : AW K tgt ls st μ) : AW K pc ls (vR k :: st) μ := by
  intro H locs Ls hP hS hl
  exact lv_ifnonnull hO.1.1 hO.1.2.1 hd ht (kk H locs Ls hP hS hl)
set_option maxRecDepth 100000 in
theorem gC_X3_28_73 {Q : Option AV → Mm → Prop} {K : KT} {cc : ByteArray} {nL d : Nat} {ret : Option FieldType} {pc n : Nat} {ls : List (Option AV)} {st : List AV} {μ : Mm} (hO : KOk PC Q K cc RX3 nL d ret) (hd : decode cc pc = .ok (.getfield 28, 3)) (hn : pc + 3 = n) (kk : AW K n ls (.inr (.inr μ.2.2) :: st) μ) : AW K pc ls (vR 73 :: st) μ := aw_get (f := 3) hO hd hn okX3 (by decide) (lw_t1 198 rfl rfl) (by decide) rfl rfl rfl kk
set_option maxRecDepth 100000 in
theorem gC_X3_19_73 {Q : Option AV → Mm → Prop} {K : KT} {cc : ByteArray} {nL d : Nat} {ret : Option FieldType} {pc n : Nat} {ls : List (Option AV)} {st : List AV} {μ : Mm} (hO : KOk PC Q K cc RX3 nL d ret) (hd : decode cc pc = .ok (.getfield 19, 3)) (hn : pc + 3 = n) (kk : AW K n ls (vR 74 :: st) μ) : AW K pc ls (vR 73 :: st) μ := aw_get (f := 1) hO hd hn okX3 (by decide) (lw_t1 195 rfl rfl) (by decide) rfl rfl rfl kk
set_option maxHeartbeats 4000000 in
set_option maxRecDepth 100000 in
theorem cJ_appealOf {μ ν : Mm} {s : Nat} (h : JR μ s ν) {p : Nat} (hp : (p : Int) < ν.1 0 25) : CtE PC 2 yX3_appealOf cX3_appealOf 7 (some .int) [vR 73, vR s, vI ((p : Nat) : Int)] μ (fun v m => v = appealM ν p ∧ Fr jA μ m) := by
  refine ct_intro [some (vR 73), some (vR s), some (vI ((p : Nat) : Int)), none, none, none, none] RX3 (by decide) rfl XCo rfl (Nat.le_of_ble_eq_true rfl) (fun K hO => ?_)
  have hs := h.ob
  have hnp := h.B.np
  have hnt := h.B.nt
  have hb0 := seemsM_R h.B (p := p) (k := 0) (by omega) (by decide)
  have hb1 := seemsM_R h.B (p := p) (k := 1) (by omega) (by decide)
  have hb2 := seemsM_R h.B (p := p) (k := 2) (by omega) (by decide)
  have hru := h.B.ru
  have hv2 : seemsM ν p 2 = ν.1 15 (4 * p + 2) := rfl
  have m0 := mulB hru.1.1 hru.1.2 hb0.1 hb0.2
  have m1 := mulB hru.2.1.1 hru.2.1.2 hb1.1 hb1.2
  have m2 := mulB hru.2.2.1.1 hru.2.2.1.2 hb2.1 hb2.2
  have hme := h.B.now.met (p := p) (by omega)
  have hch := h.B.now.cha (j := 18 + p) (by omega) (by omega)
  have hyr := h.B.now.rest
  refine aw_aload_n hO dX3_appealOf_0 rfl rfl ?_
  refine aw_aload_n hO dX3_appealOf_1 rfl rfl ?_
  refine aw_iload_n hO dX3_appealOf_2 rfl rfl ?_
  refine aw_iconst hO dX3_appealOf_3 rfl ?_
  refine aw_callVI (as := [vR s, vI ((p : Nat) : Int), vI 0]) (st := []) hO dX3_appealOf_4 rfl (lw_t4 9 rfl rfl) kX3_seeming (T := TX3) rfl (by decide) rfl (cJ_seeming h (p := p) (k := 0) (by omega) (by omega)) (by decide) rfl rfl rfl (Nat.le_of_ble_eq_true rfl) ?_
  refine aw_istore_n (ls' := [some (vR 73), some (vR s), some (vI ((p : Nat) : Int)), some (vI (seemsM ν p 0)), none, none, none]) hO dX3_appealOf_7 rfl (Nat.le_of_ble_eq_true rfl) rfl rfl ?_
  refine aw_aload_n hO dX3_appealOf_8 rfl rfl ?_
  refine aw_aload_n hO dX3_appealOf_9 rfl rfl ?_
  refine aw_iload_n hO dX3_appealOf_10 rfl rfl ?_
  refine aw_iconst hO dX3_appealOf_11 rfl ?_
  refine aw_callVI (as := [vR s, vI ((p : Nat) : Int), vI 1]) (st := []) hO dX3_appealOf_12 rfl (lw_t4 9 rfl rfl) kX3_seeming (T := TX3) rfl (by decide) rfl (cJ_seeming h (p := p) (k := 1) (by omega) (by omega)) (by decide) rfl rfl rfl (Nat.le_of_ble_eq_true rfl) ?_
  refine aw_istore (ls' := [some (vR 73), some (vR s), some (vI ((p : Nat) : Int)), some (vI (seemsM ν p 0)), some (vI (seemsM ν p 1)), none, none]) hO dX3_appealOf_15 rfl (Nat.le_of_ble_eq_true rfl) rfl rfl ?_
  refine aw_aload_n hO dX3_appealOf_17 rfl rfl ?_
  refine aw_aload_n hO dX3_appealOf_18 rfl rfl ?_
  refine aw_iload_n hO dX3_appealOf_19 rfl rfl ?_
  refine aw_iconst hO dX3_appealOf_20 rfl ?_
  refine aw_callVI (as := [vR s, vI ((p : Nat) : Int), vI 2]) (st := []) hO dX3_appealOf_21 rfl (lw_t4 9 rfl rfl) kX3_seeming (T := TX3) rfl (by decide) rfl (cJ_seeming h (p := p) (k := 2) (by omega) (by omega)) (by decide) rfl rfl rfl (Nat.le_of_ble_eq_true rfl) ?_
  refine aw_istore (ls' := [some (vR 73), some (vR s), some (vI ((p : Nat) : Int)), some (vI (seemsM ν p 0)), some (vI (seemsM ν p 1)), some (vI (seemsM ν p 2)), none]) hO dX3_appealOf_24 rfl (Nat.le_of_ble_eq_true rfl) rfl rfl ?_
  refine aw_aload_n hO dX3_appealOf_26 rfl rfl ?_
  refine gC_X3_28_73 hO dX3_appealOf_27 rfl ?_
  rcases h.H with ⟨hn0, hn1⟩ | ⟨j, l, hj, hn1, hn0, hlC, hlR⟩
  · refine aw_stq (st' := [vN]) (by rw [hn0]) ?_
    refine aw_ifnonnullN hO dX3_appealOf_30 rfl ?_
    refine aw_aload_n hO dX3_appealOf_33 rfl rfl ?_
    refine gC_X3_32_73 hO dX3_appealOf_34 rfl ?_
    refine aw_iconst hO dX3_appealOf_37 rfl ?_
    refine aw_callVI (as := [vI 0]) (st := []) hO dX3_appealOf_38 rfl (lw_t4 10 rfl rfl) kX9_liking (T := TX9) rfl (by decide) rfl (cJ_liking h.z (k := 0) (by omega)) (by decide) rfl rfl rfl (Nat.le_of_ble_eq_true rfl) ?_
    refine aw_iload_n hO dX3_appealOf_41 rfl rfl ?_
    refine aw_imul hO dX3_appealOf_42 rfl ?_
    refine aw_aload_n hO dX3_appealOf_43 rfl rfl ?_
    refine gC_X3_32_73 hO dX3_appealOf_44 rfl ?_
    refine aw_iconst hO dX3_appealOf_47 rfl ?_
    refine aw_callVI (as := [vI 1]) (st := [vI ((ν.1 14 0) * (seemsM ν p 0))]) hO dX3_appealOf_48 rfl (lw_t4 10 rfl rfl) kX9_liking (T := TX9) rfl (by decide) rfl (cJ_liking h.z (k := 1) (by omega)) (by decide) rfl rfl rfl (Nat.le_of_ble_eq_true rfl) ?_
    refine aw_iload hO dX3_appealOf_51 rfl rfl ?_
    refine aw_imul hO dX3_appealOf_53 rfl ?_
    refine aw_iadd hO dX3_appealOf_54 rfl ?_
    refine aw_istore (ls' := [some (vR 73), some (vR s), some (vI ((p : Nat) : Int)), some (vI (seemsM ν p 0)), some (vI (seemsM ν p 1)), some (vI (seemsM ν p 2)), some (vI (((ν.1 14 0) * (seemsM ν p 0)) + ((ν.1 14 1) * (seemsM ν p 1))))]) hO dX3_appealOf_55 rfl (Nat.le_of_ble_eq_true rfl) rfl rfl ?_
    refine aw_iload hO dX3_appealOf_57 rfl rfl ?_
    refine aw_aload_n hO dX3_appealOf_59 rfl rfl ?_
    refine gC_X3_32_73 hO dX3_appealOf_60 rfl ?_
    refine aw_iconst hO dX3_appealOf_63 rfl ?_
    refine aw_callVI (as := [vI 2]) (st := [vI (((ν.1 14 0) * (seemsM ν p 0)) + ((ν.1 14 1) * (seemsM ν p 1)))]) hO dX3_appealOf_64 rfl (lw_t4 10 rfl rfl) kX9_liking (T := TX9) rfl (by decide) rfl (cJ_liking h.z (k := 2) (by omega)) (by decide) rfl rfl rfl (Nat.le_of_ble_eq_true rfl) ?_
    refine aw_iload hO dX3_appealOf_67 rfl rfl ?_
    refine aw_imul hO dX3_appealOf_69 rfl ?_
    refine aw_isub hO dX3_appealOf_70 rfl ?_
    refine aw_i2l hO dX3_appealOf_71 rfl ⟨by omega, by omega⟩ ?_
    refine aw_bipush hO dX3_appealOf_72 rfl (by decide) (by decide) ?_
    refine aw_callSNI (as := [vL ((((ν.1 14 0) * (seemsM ν p 0)) + ((ν.1 14 1) * (seemsM ν p 1))) - ((ν.1 14 2) * (seemsM ν p 2))), vI 99]) (st := []) hO dX3_appealOf_74 rfl (lw_t3n 197 rfl rfl) kX11_within (ctC_within μ (v := ((((ν.1 14 0) * (seemsM ν p 0)) + ((ν.1 14 1) * (seemsM ν p 1))) - ((ν.1 14 2) * (seemsM ν p 2)))) (m := 99) ⟨by omega, by omega⟩ (by omega) (by omega)) (by decide) rfl rfl rfl (Nat.le_of_ble_eq_true rfl) ?_
    refine aw_iret hO dX3_appealOf_77 ?_
    exact ⟨_, rfl, by unfold appealM rawM; rw [if_pos hn1, hv2], Fr.rf⟩
  · refine aw_stq (st' := [vR (13 + 3 * j)]) (by rw [hn0]) ?_
    refine aw_ifnonnullR (tgt := 78) hO dX3_appealOf_30 rfl ?_
    refine aw_aload_n hO dX3_appealOf_78 rfl rfl ?_
    refine gC_X3_19_73 hO dX3_appealOf_79 rfl ?_
    refine aw_iconst hO dX3_appealOf_82 rfl ?_
    refine aw_iload_n hO dX3_appealOf_83 rfl rfl ?_
    refine aw_iastn (N := 6) (i := 0) hO dX3_appealOf_84 rfl (by decide) rfl (by decide) rfl (by decide) ?_
    refine aw_mm (fun μ1 e_μ1 => ?_)
    have hF_μ1 : Fr jA μ μ1 := by rw [e_μ1]; exact Fr.rf.st (Or.inl rfl) _
    have hJ_μ1 := h.fa hF_μ1
    refine aw_aload_n hO dX3_appealOf_85 rfl rfl ?_
    refine gC_X3_19_73 hO dX3_appealOf_86 rfl ?_
    refine aw_iconst hO dX3_appealOf_89 rfl ?_
    refine aw_iload hO dX3_appealOf_90 rfl rfl ?_
    refine aw_iastn (N := 6) (i := 1) hO dX3_appealOf_92 rfl (by decide) rfl (by decide) rfl (by decide) ?_
    refine aw_mm (fun μ2 e_μ2 => ?_)
    have hF_μ2 : Fr jA μ μ2 := by rw [e_μ2]; exact hF_μ1.st (Or.inl rfl) _
    have hJ_μ2 := h.fa hF_μ2
    refine aw_aload_n hO dX3_appealOf_93 rfl rfl ?_
    refine gC_X3_19_73 hO dX3_appealOf_94 rfl ?_
    refine aw_iconst hO dX3_appealOf_97 rfl ?_
    refine aw_iload hO dX3_appealOf_98 rfl rfl ?_
    refine aw_iastn (N := 6) (i := 2) hO dX3_appealOf_100 rfl (by decide) rfl (by decide) rfl (by decide) ?_
    refine aw_mm (fun μ3 e_μ3 => ?_)
    have hF_μ3 : Fr jA μ μ3 := by rw [e_μ3]; exact hF_μ2.st (Or.inl rfl) _
    have hJ_μ3 := h.fa hF_μ3
    refine aw_aload_n hO dX3_appealOf_101 rfl rfl ?_
    refine gC_X3_19_73 hO dX3_appealOf_102 rfl ?_
    refine aw_iconst hO dX3_appealOf_105 rfl ?_
    refine aw_aload_n hO dX3_appealOf_106 rfl rfl ?_
    refine aw_iload_n hO dX3_appealOf_107 rfl rfl ?_
    refine aw_callVI (as := [vI ((p : Nat) : Int)]) (st := [vI 3, vR 74]) hO dX3_appealOf_108 rfl (lw_t4 11 rfl rfl) kX7_meetings (T := TX7) rfl hs.1 hs.2.1 (cJ_meetings hJ_μ3.ob hJ_μ3.S (p := p) (by omega)) (by decide) rfl rfl rfl (Nat.le_of_ble_eq_true rfl) ?_
    refine aw_iastn (N := 6) (i := 3) hO dX3_appealOf_111 rfl (by decide) rfl (by decide) rfl (by decide) ?_
    refine aw_mm (fun μ4 e_μ4 => ?_)
    have hF_μ4 : Fr jA μ μ4 := by rw [e_μ4]; exact hF_μ3.st (Or.inl rfl) _
    have hJ_μ4 := h.fa hF_μ4
    refine aw_aload_n hO dX3_appealOf_112 rfl rfl ?_
    refine gC_X3_19_73 hO dX3_appealOf_113 rfl ?_
    refine aw_iconst hO dX3_appealOf_116 rfl ?_
    refine aw_aload_n hO dX3_appealOf_117 rfl rfl ?_
    refine aw_iload_n hO dX3_appealOf_118 rfl rfl ?_
    refine aw_callVI (as := [vI ((p : Nat) : Int)]) (st := [vI 4, vR 74]) hO dX3_appealOf_119 rfl (lw_t4 15 rfl rfl) kX7_chains (T := TX7) rfl hs.1 hs.2.1 (cJ_chains hJ_μ4.ob hJ_μ4.S (p := p) (by omega)) (by decide) rfl rfl rfl (Nat.le_of_ble_eq_true rfl) ?_
    refine aw_iastn (N := 6) (i := 4) hO dX3_appealOf_122 rfl (by decide) rfl (by decide) rfl (by decide) ?_
    refine aw_mm (fun μ5 e_μ5 => ?_)
    have hF_μ5 : Fr jA μ μ5 := by rw [e_μ5]; exact hF_μ4.st (Or.inl rfl) _
    have hJ_μ5 := h.fa hF_μ5
    refine aw_aload_n hO dX3_appealOf_123 rfl rfl ?_
    refine gC_X3_19_73 hO dX3_appealOf_124 rfl ?_
    refine aw_iconst hO dX3_appealOf_127 rfl ?_
    refine aw_aload_n hO dX3_appealOf_128 rfl rfl ?_
    refine aw_getN (f := 0) hO dX3_appealOf_129 rfl okX7 (by decide) (lw_t1n 152 rfl rfl) hs.1 hs.2.1 rfl rfl ?_
    refine aw_bipush hO dX3_appealOf_132 rfl (by decide) (by decide) ?_
    refine aw_ialdn (N := 98) (i := 6) hO dX3_appealOf_134 rfl hs.2.2.1 hs.2.2.2 (by decide) rfl (by decide) ?_
    refine aw_cg hJ_μ5.S.yr ?_
    refine aw_bipush hO dX3_appealOf_135 rfl (by decide) (by decide) ?_
    refine aw_irem hO dX3_appealOf_137 rfl (by omega) (by omega) (by omega) (by omega) ?_
    refine aw_iastn (N := 6) (i := 5) hO dX3_appealOf_138 rfl (by decide) rfl (by decide) rfl (by decide) ?_
    refine aw_mm (fun μ6 e_μ6 => ?_)
    have hF_μ6 : Fr jA μ μ6 := by rw [e_μ6]; exact hF_μ5.st (Or.inl rfl) _
    have hJ_μ6 := h.fa hF_μ6
    refine aw_aload_n hO dX3_appealOf_139 rfl rfl ?_
    refine gC_X3_28_73 hO dX3_appealOf_140 rfl ?_
    refine aw_stq (st' := [vR (13 + 3 * j)]) (by rw [show μ6.2.2 = some (13 + 3 * j) from by rw [hF_μ6.2]; exact hn0]) ?_
    refine aw_aload_n hO dX3_appealOf_143 rfl rfl ?_
    refine gC_X3_19_73 hO dX3_appealOf_144 rfl ?_
    have hlt : ∀ i, i < 6 → μ6.1 74 i = ltM ν p i := by
      intro i hi
      have hc : i = 0 ∨ i = 1 ∨ i = 2 ∨ i = 3 ∨ i = 4 ∨ i = 5 := by omega
      rcases hc with rfl | rfl | rfl | rfl | rfl | rfl
      · rw [e_μ6, mst_ni (by decide), e_μ5, mst_ni (by decide), e_μ4, mst_ni (by decide), e_μ3, mst_ni (by decide), e_μ2, mst_ni (by decide), e_μ1, mst_eq]; rfl
      · rw [e_μ6, mst_ni (by decide), e_μ5, mst_ni (by decide), e_μ4, mst_ni (by decide), e_μ3, mst_ni (by decide), e_μ2, mst_eq]; rfl
      · rw [e_μ6, mst_ni (by decide), e_μ5, mst_ni (by decide), e_μ4, mst_ni (by decide), e_μ3, mst_eq]; rfl
      · rw [e_μ6, mst_ni (by decide), e_μ5, mst_ni (by decide), e_μ4, mst_eq]; rfl
      · rw [e_μ6, mst_ni (by decide), e_μ5, mst_eq]; rfl
      · rw [e_μ6, mst_eq]; rfl
    refine aw_callVE (as := [vR 74]) (st := []) hO dX3_appealOf_147 rfl (lw_t4 19 rfl rfl) kX4_worth (T := TX4) rfl (Lob.of hj).o.1 (Lob.of hj).o.2 (ctC_4_worth μ6 (Lob.of hj) (hlC.fr (hF_μ6.1 _ _ (by unfold jA; omega)) (hF_μ6.fn (fun i => by unfold jA; omega))) (fun i hi => by rw [hlt i hi]; exact ltM_R h.B (by omega) i hi)) (by decide) rfl rfl rfl (Nat.le_of_ble_eq_true rfl) (fun v7 μ8 hq9 => ?_)
    obtain ⟨⟨e_v7, hv1, hv2b⟩, hF_μ8⟩ := hq9
    refine aw_i2l hO dX3_appealOf_150 rfl ⟨by omega, by omega⟩ ?_
    refine aw_bipush hO dX3_appealOf_151 rfl (by decide) (by decide) ?_
    refine aw_callSNI (as := [vL v7, vI 99]) (st := []) hO dX3_appealOf_153 rfl (lw_t3n 197 rfl rfl) kX11_within (ctC_within μ8 (v := v7) (m := 99) ⟨by omega, by omega⟩ (by omega) (by omega)) (by decide) rfl rfl rfl (Nat.le_of_ble_eq_true rfl) ?_
    refine aw_iret hO dX3_appealOf_156 ?_
    exact ⟨_, rfl, by rw [e_v7]; unfold appealM rawM; rw [if_neg (by omega), hn1, Int.toNat_natCast, hlR.w, worthL_lt (l := l) (fun i hi => hlt i hi) hlR.2.2.2.2], hF_μ6.tr (hF_μ8.mono (fun k i e => by unfold jA; omega))⟩
theorem dX9_mostOfThese_0 : decode cX9_mostOfThese 0 = .ok (.iconst (-1), 1) := by decide +kernel
theorem dX9_mostOfThese_1 : decode cX9_mostOfThese 1 = .ok (.istore_n 3, 1) := by decide +kernel
theorem dX9_mostOfThese_2 : decode cX9_mostOfThese 2 = .ok (.iconst 0, 1) := by decide +kernel
theorem dX9_mostOfThese_3 : decode cX9_mostOfThese 3 = .ok (.istore 4, 2) := by decide +kernel
theorem dX9_mostOfThese_5 : decode cX9_mostOfThese 5 = .ok (.iload 4, 2) := by decide +kernel
theorem dX9_mostOfThese_7 : decode cX9_mostOfThese 7 = .ok (.aload_n 0, 1) := by decide +kernel
theorem dX9_mostOfThese_8 : decode cX9_mostOfThese 8 = .ok (.getfield 15, 3) := by decide +kernel
theorem dX9_mostOfThese_11 : decode cX9_mostOfThese 11 = .ok (.if_icmp .ge 43, 3) := by decide +kernel
theorem dX9_mostOfThese_14 : decode cX9_mostOfThese 14 = .ok (.iload_n 2, 1) := by decide +kernel
theorem dX9_mostOfThese_15 : decode cX9_mostOfThese 15 = .ok (.iload 4, 2) := by decide +kernel
theorem dX9_mostOfThese_17 : decode cX9_mostOfThese 17 = .ok (.ishr, 1) := by decide +kernel
theorem dX9_mostOfThese_18 : decode cX9_mostOfThese 18 = .ok (.iconst 1, 1) := by decide +kernel
theorem dX9_mostOfThese_19 : decode cX9_mostOfThese 19 = .ok (.iand, 1) := by decide +kernel
theorem dX9_mostOfThese_20 : decode cX9_mostOfThese 20 = .ok (.iconst 1, 1) := by decide +kernel
theorem dX9_mostOfThese_21 : decode cX9_mostOfThese 21 = .ok (.if_icmp .ne 27, 3) := by decide +kernel
theorem dX9_mostOfThese_24 : decode cX9_mostOfThese 24 = .ok (.iload_n 3, 1) := by decide +kernel
theorem dX9_mostOfThese_25 : decode cX9_mostOfThese 25 = .ok (.iconst (-1), 1) := by decide +kernel
theorem dX9_mostOfThese_26 : decode cX9_mostOfThese 26 = .ok (.if_icmp .eq 19, 3) := by decide +kernel
theorem dX9_mostOfThese_29 : decode cX9_mostOfThese 29 = .ok (.aload_n 0, 1) := by decide +kernel
theorem dX9_mostOfThese_30 : decode cX9_mostOfThese 30 = .ok (.iload 4, 2) := by decide +kernel
theorem dX9_mostOfThese_32 : decode cX9_mostOfThese 32 = .ok (.iload_n 1, 1) := by decide +kernel
theorem dX9_mostOfThese_33 : decode cX9_mostOfThese 33 = .ok (.invokevirtual 36, 3) := by decide +kernel
theorem dX9_mostOfThese_36 : decode cX9_mostOfThese 36 = .ok (.aload_n 0, 1) := by decide +kernel
theorem dX9_mostOfThese_37 : decode cX9_mostOfThese 37 = .ok (.iload_n 3, 1) := by decide +kernel
theorem dX9_mostOfThese_38 : decode cX9_mostOfThese 38 = .ok (.iload_n 1, 1) := by decide +kernel
theorem dX9_mostOfThese_39 : decode cX9_mostOfThese 39 = .ok (.invokevirtual 36, 3) := by decide +kernel
theorem dX9_mostOfThese_42 : decode cX9_mostOfThese 42 = .ok (.if_icmp .le 6, 3) := by decide +kernel
theorem dX9_mostOfThese_45 : decode cX9_mostOfThese 45 = .ok (.iload 4, 2) := by decide +kernel
theorem dX9_mostOfThese_47 : decode cX9_mostOfThese 47 = .ok (.istore_n 3, 1) := by decide +kernel
theorem dX9_mostOfThese_48 : decode cX9_mostOfThese 48 = .ok (.iinc 4 1, 3) := by decide +kernel
theorem dX9_mostOfThese_51 : decode cX9_mostOfThese 51 = .ok (.goto (-46), 3) := by decide +kernel
theorem dX9_mostOfThese_54 : decode cX9_mostOfThese 54 = .ok (.iload_n 3, 1) := by decide +kernel
theorem dX9_mostOfThese_55 : decode cX9_mostOfThese 55 = .ok (.ireturn, 1) := by decide +kernel
set_option maxHeartbeats 4000000 in
set_option maxRecDepth 100000 in
theorem cJ_mostOfThese {μ ν : Mm} (h : JR0 μ ν) {k : Nat} {b : Int} (hk : k < 4) : CtI PC 1 yX9_mostOfThese cX9_mostOfThese 5 (some .int) [vR 25, vI ((k : Nat) : Int), vI b] μ (best (fun p => hasB b p) (fun p => ν.1 15 (4 * p + k)) (ν.1 0 25).toNat) := by
  refine ct_intro [some (vR 25), some (vI ((k : Nat) : Int)), some (vI b), none, none] RX9 (by decide) rfl XCo rfl (Nat.le_of_ble_eq_true rfl) (fun K hO => ?_)
  have hnp := h.B.np
  have hnt := h.B.nt
  have lp : ∀ (c : Nat) (i : Nat) (x : Int), ((i : Int) + c = ν.1 0 25) → (x = best (fun p => hasB b p) (fun p => ν.1 15 (4 * p + k)) i) → AW K 5 [some (vR 25), some (vI ((k : Nat) : Int)), some (vI b), some (vI x), some (vI ((i : Nat) : Int))] [] μ := by
    intro c
    induction c with
    | zero =>
      intro i x hi hx
      have hbr := best_rng (fun p => hasB b p) (fun p => ν.1 15 (4 * p + k)) i
      rw [← hx] at hbr
      refine aw_iload hO dX9_mostOfThese_5 rfl rfl ?_
      refine aw_aload_n hO dX9_mostOfThese_7 rfl rfl ?_
      refine gC_X9_15_25 hO dX9_mostOfThese_8 rfl ?_
      refine aw_cg h.T.n ?_
      refine aw_icmp_ge (tgt := 54) hO dX9_mostOfThese_11 rfl rfl (inRn (by omega)) ⟨by omega, by omega⟩ (fun c11 => ?_) (fun c11 => ?_)
      · refine aw_iload_n hO dX9_mostOfThese_54 rfl rfl ?_
        refine aw_iret hO dX9_mostOfThese_55 ?_
        exact rI (by rw [hx, show i = (ν.1 0 25).toNat by omega])
      · exact absurd c11 (by omega)
    | succ c ih =>
      intro i x hi hx
      have hbr := best_rng (fun p => hasB b p) (fun p => ν.1 15 (4 * p + k)) i
      rw [← hx] at hbr
      refine aw_iload hO dX9_mostOfThese_5 rfl rfl ?_
      refine aw_aload_n hO dX9_mostOfThese_7 rfl rfl ?_
      refine gC_X9_15_25 hO dX9_mostOfThese_8 rfl ?_
      refine aw_cg h.T.n ?_
      refine aw_icmp_ge (tgt := 54) hO dX9_mostOfThese_11 rfl rfl (inRn (by omega)) ⟨by omega, by omega⟩ (fun c11 => ?_) (fun c11 => ?_)
      · exact absurd c11 (by omega)
      · refine aw_iload_n hO dX9_mostOfThese_14 rfl rfl ?_
        refine aw_iload hO dX9_mostOfThese_15 rfl rfl ?_
        refine aw_ishr hO dX9_mostOfThese_17 rfl ?_
        refine aw_iconst hO dX9_mostOfThese_18 rfl ?_
        refine aw_iand hO dX9_mostOfThese_19 rfl ?_
        refine aw_iconst hO dX9_mostOfThese_20 rfl ?_
        refine aw_icmp_ne (tgt := 48) hO dX9_mostOfThese_21 rfl rfl (bAnd_R _ _) (inRlit _) (fun c21 => ?_) (fun c21 => ?_)
        · have c21b : ¬ hasB b i = true := fun e => c21 (of_decide_eq_true e)
          refine aw_iinc (ls' := [some (vR 25), some (vI ((k : Nat) : Int)), some (vI b), some (vI x), some (vI (((i : Nat) : Int) + 1))]) hO dX9_mostOfThese_48 rfl rfl rfl rfl ?_
          refine aw_lsq (ls' := [some (vR 25), some (vI ((k : Nat) : Int)), some (vI b), some (vI x), some (vI (((i + 1) : Nat) : Int))]) rfl ?_
          refine aw_goto (tgt := 5) hO dX9_mostOfThese_51 rfl ?_
          refine aw_lsq (ls' := [some (vR 25), some (vI ((k : Nat) : Int)), some (vI b), some (vI x), some (vI (((i + 1) : Nat) : Int))]) rfl ?_
          exact ih (i + 1) x (by omega) (by rw [best_succ, if_neg (fun q => c21b q.1)]; exact hx)
        · have c21b : hasB b i = true := decide_eq_true c21
          refine aw_iload_n hO dX9_mostOfThese_24 rfl rfl ?_
          refine aw_iconst hO dX9_mostOfThese_25 rfl ?_
          refine aw_icmp_eq (tgt := 45) hO dX9_mostOfThese_26 rfl rfl ⟨by omega, by omega⟩ (inRlit _) (fun c26 => ?_) (fun c26 => ?_)
          · refine aw_iload hO dX9_mostOfThese_45 rfl rfl ?_
            refine aw_istore_n (ls' := [some (vR 25), some (vI ((k : Nat) : Int)), some (vI b), some (vI ((i : Nat) : Int)), some (vI ((i : Nat) : Int))]) hO dX9_mostOfThese_47 rfl (Nat.le_of_ble_eq_true rfl) rfl rfl ?_
            refine aw_iinc (ls' := [some (vR 25), some (vI ((k : Nat) : Int)), some (vI b), some (vI ((i : Nat) : Int)), some (vI (((i : Nat) : Int) + 1))]) hO dX9_mostOfThese_48 rfl rfl rfl rfl ?_
            refine aw_lsq (ls' := [some (vR 25), some (vI ((k : Nat) : Int)), some (vI b), some (vI ((i : Nat) : Int)), some (vI (((i + 1) : Nat) : Int))]) rfl ?_
            refine aw_goto (tgt := 5) hO dX9_mostOfThese_51 rfl ?_
            refine aw_lsq (ls' := [some (vR 25), some (vI ((k : Nat) : Int)), some (vI b), some (vI ((i : Nat) : Int)), some (vI (((i + 1) : Nat) : Int))]) rfl ?_
            exact ih (i + 1) (i : Int) (by omega) (by rw [best_succ, if_pos ⟨c21b, Or.inl (by rw [← hx]; exact c26)⟩])
          · have q1 := h.B.per (p := i) (k := k) (by omega) (by omega)
            have q2 := h.B.per (p := x.toNat) (k := k) (by omega) (by omega)
            refine aw_aload_n hO dX9_mostOfThese_29 rfl rfl ?_
            refine aw_iload hO dX9_mostOfThese_30 rfl rfl ?_
            refine aw_iload_n hO dX9_mostOfThese_32 rfl rfl ?_
            refine aw_callVI (as := [vI ((i : Nat) : Int), vI ((k : Nat) : Int)]) (st := []) hO dX9_mostOfThese_33 rfl (lw_t4 43 rfl rfl) kX9_trait (T := TX9) rfl (by decide) rfl (cJ_trait h (p := i) (k := k) (by omega) (by omega)) (by decide) rfl rfl rfl (Nat.le_of_ble_eq_true rfl) ?_
            refine aw_aload_n hO dX9_mostOfThese_36 rfl rfl ?_
            refine aw_lsq (ls' := [some (vR 25), some (vI ((k : Nat) : Int)), some (vI b), some (vI ((x.toNat : Nat) : Int)), some (vI ((i : Nat) : Int))]) (by rw [Int.toNat_of_nonneg (show 0 ≤ x by omega)]) ?_
            refine aw_iload_n hO dX9_mostOfThese_37 rfl rfl ?_
            refine aw_iload_n hO dX9_mostOfThese_38 rfl rfl ?_
            refine aw_callVI (as := [vI ((x.toNat : Nat) : Int), vI ((k : Nat) : Int)]) (st := [vI (ν.1 15 (4 * i + k))]) hO dX9_mostOfThese_39 rfl (lw_t4 43 rfl rfl) kX9_trait (T := TX9) rfl (by decide) rfl (cJ_trait h (p := x.toNat) (k := k) (by omega) (by omega)) (by decide) rfl rfl rfl (Nat.le_of_ble_eq_true rfl) ?_
            refine aw_icmp_le (tgt := 48) hO dX9_mostOfThese_42 rfl rfl ⟨by omega, by omega⟩ ⟨by omega, by omega⟩ (fun c42 => ?_) (fun c42 => ?_)
            · refine aw_iinc (ls' := [some (vR 25), some (vI ((k : Nat) : Int)), some (vI b), some (vI ((x.toNat : Nat) : Int)), some (vI (((i : Nat) : Int) + 1))]) hO dX9_mostOfThese_48 rfl rfl rfl rfl ?_
              refine aw_lsq (ls' := [some (vR 25), some (vI ((k : Nat) : Int)), some (vI b), some (vI ((x.toNat : Nat) : Int)), some (vI (((i + 1) : Nat) : Int))]) rfl ?_
              refine aw_goto (tgt := 5) hO dX9_mostOfThese_51 rfl ?_
              refine aw_lsq (ls' := [some (vR 25), some (vI ((k : Nat) : Int)), some (vI b), some (vI ((x.toNat : Nat) : Int)), some (vI (((i + 1) : Nat) : Int))]) rfl ?_
              exact ih (i + 1) ((x.toNat : Nat) : Int) (by omega) (by rw [Int.toNat_of_nonneg (show 0 ≤ x by omega), best_succ, if_neg (fun q => q.2.elim (fun q => c26 (by rw [hx]; exact q)) (fun q => by rw [← hx] at q; omega))]; exact hx)
            · refine aw_iload hO dX9_mostOfThese_45 rfl rfl ?_
              refine aw_istore_n (ls' := [some (vR 25), some (vI ((k : Nat) : Int)), some (vI b), some (vI ((i : Nat) : Int)), some (vI ((i : Nat) : Int))]) hO dX9_mostOfThese_47 rfl (Nat.le_of_ble_eq_true rfl) rfl rfl ?_
              refine aw_iinc (ls' := [some (vR 25), some (vI ((k : Nat) : Int)), some (vI b), some (vI ((i : Nat) : Int)), some (vI (((i : Nat) : Int) + 1))]) hO dX9_mostOfThese_48 rfl rfl rfl rfl ?_
              refine aw_lsq (ls' := [some (vR 25), some (vI ((k : Nat) : Int)), some (vI b), some (vI ((i : Nat) : Int)), some (vI (((i + 1) : Nat) : Int))]) rfl ?_
              refine aw_goto (tgt := 5) hO dX9_mostOfThese_51 rfl ?_
              refine aw_lsq (ls' := [some (vR 25), some (vI ((k : Nat) : Int)), some (vI b), some (vI ((i : Nat) : Int)), some (vI (((i + 1) : Nat) : Int))]) rfl ?_
              exact ih (i + 1) (i : Int) (by omega) (by rw [best_succ, if_pos ⟨c21b, Or.inr (by rw [← hx]; exact c42)⟩])
  refine aw_iconst hO dX9_mostOfThese_0 rfl ?_
  refine aw_istore_n (ls' := [some (vR 25), some (vI ((k : Nat) : Int)), some (vI b), some (vI (-1)), none]) hO dX9_mostOfThese_1 rfl (Nat.le_of_ble_eq_true rfl) rfl rfl ?_
  refine aw_iconst hO dX9_mostOfThese_2 rfl ?_
  refine aw_istore (ls' := [some (vR 25), some (vI ((k : Nat) : Int)), some (vI b), some (vI (-1)), some (vI 0)]) hO dX9_mostOfThese_3 rfl (Nat.le_of_ble_eq_true rfl) rfl rfl ?_
  refine aw_lsq (ls' := [some (vR 25), some (vI ((k : Nat) : Int)), some (vI b), some (vI (-1)), some (vI ((0 : Nat) : Int))]) rfl ?_
  exact lp (ν.1 0 25).toNat 0 (-1) (by omega) rfl
theorem dX9_mostOf_0 : decode cX9_mostOf 0 = .ok (.aload_n 0, 1) := by decide +kernel
theorem dX9_mostOf_1 : decode cX9_mostOf 1 = .ok (.iload_n 1, 1) := by decide +kernel
theorem dX9_mostOf_2 : decode cX9_mostOf 2 = .ok (.aload_n 0, 1) := by decide +kernel
theorem dX9_mostOf_3 : decode cX9_mostOf 3 = .ok (.invokevirtual 28, 3) := by decide +kernel
theorem dX9_mostOf_6 : decode cX9_mostOf 6 = .ok (.invokevirtual 32, 3) := by decide +kernel
theorem dX9_mostOf_9 : decode cX9_mostOf 9 = .ok (.ireturn, 1) := by decide +kernel
theorem best_all {ν : Mm} (h : MB ν) (val : Nat → Int) : best (fun p => hasB (bShl 1 (ν.1 0 25) - 1) p) val (ν.1 0 25).toNat = best allT val (ν.1 0 25).toNat := best_congr _ (fun p hp => by
  have := h.np
  rw [hasB_all h.np.1 h.np.2 (by omega)]
  simp [allT, show (p : Int) < ν.1 0 25 by omega]) (fun _ _ => rfl)
set_option maxHeartbeats 4000000 in
set_option maxRecDepth 100000 in
theorem cJ_mostOf {μ ν : Mm} (h : JR0 μ ν) {k : Nat} (hk : k < 4) : CtI PC 2 yX9_mostOf cX9_mostOf 2 (some .int) [vR 25, vI ((k : Nat) : Int)] μ (best allT (fun p => ν.1 15 (4 * p + k)) (ν.1 0 25).toNat) := by
  refine ct_intro [some (vR 25), some (vI ((k : Nat) : Int))] RX9 (by decide) rfl XCo rfl (Nat.le_of_ble_eq_true rfl) (fun K hO => ?_)
  have hnp := h.B.np
  have hnt := h.B.nt
  refine aw_aload_n hO dX9_mostOf_0 rfl rfl ?_
  refine aw_iload_n hO dX9_mostOf_1 rfl rfl ?_
  refine aw_aload_n hO dX9_mostOf_2 rfl rfl ?_
  refine aw_callVI (as := []) (st := [vI ((k : Nat) : Int), vR 25]) hO dX9_mostOf_3 rfl (lw_t5 106 rfl rfl) kX9_allPersons (T := TX9) rfl (by decide) rfl (cJ_allPersons h) (by decide) rfl rfl rfl (Nat.le_of_ble_eq_true rfl) ?_
  refine aw_callVI (as := [vI ((k : Nat) : Int), vI (bShl 1 (ν.1 0 25) - 1)]) (st := []) hO dX9_mostOf_6 rfl (lw_t5 107 rfl rfl) kX9_mostOfThese (T := TX9) rfl (by decide) rfl (cJ_mostOfThese h (k := k) (b := (bShl 1 (ν.1 0 25) - 1)) (by omega)) (by decide) rfl rfl rfl (Nat.le_of_ble_eq_true rfl) ?_
  refine aw_iret hO dX9_mostOf_9 ?_
  exact rI (best_all h.B _)
theorem dX9_gravest_0 : decode cX9_gravest 0 = .ok (.iconst (-1), 1) := by decide +kernel
theorem dX9_gravest_1 : decode cX9_gravest 1 = .ok (.istore_n 1, 1) := by decide +kernel
theorem dX9_gravest_2 : decode cX9_gravest 2 = .ok (.iconst 0, 1) := by decide +kernel
theorem dX9_gravest_3 : decode cX9_gravest 3 = .ok (.istore_n 2, 1) := by decide +kernel
theorem dX9_gravest_4 : decode cX9_gravest 4 = .ok (.iload_n 2, 1) := by decide +kernel
theorem dX9_gravest_5 : decode cX9_gravest 5 = .ok (.aload_n 0, 1) := by decide +kernel
theorem dX9_gravest_6 : decode cX9_gravest 6 = .ok (.getfield 19, 3) := by decide +kernel
theorem dX9_gravest_9 : decode cX9_gravest 9 = .ok (.if_icmp .ge 29, 3) := by decide +kernel
theorem dX9_gravest_12 : decode cX9_gravest 12 = .ok (.iload_n 1, 1) := by decide +kernel
theorem dX9_gravest_13 : decode cX9_gravest 13 = .ok (.iconst (-1), 1) := by decide +kernel
theorem dX9_gravest_14 : decode cX9_gravest 14 = .ok (.if_icmp .eq 16, 3) := by decide +kernel
theorem dX9_gravest_17 : decode cX9_gravest 17 = .ok (.aload_n 0, 1) := by decide +kernel
theorem dX9_gravest_18 : decode cX9_gravest 18 = .ok (.iload_n 2, 1) := by decide +kernel
theorem dX9_gravest_19 : decode cX9_gravest 19 = .ok (.invokevirtual 39, 3) := by decide +kernel
theorem dX9_gravest_22 : decode cX9_gravest 22 = .ok (.aload_n 0, 1) := by decide +kernel
theorem dX9_gravest_23 : decode cX9_gravest 23 = .ok (.iload_n 1, 1) := by decide +kernel
theorem dX9_gravest_24 : decode cX9_gravest 24 = .ok (.invokevirtual 39, 3) := by decide +kernel
theorem dX9_gravest_27 : decode cX9_gravest 27 = .ok (.if_icmp .le 5, 3) := by decide +kernel
theorem dX9_gravest_30 : decode cX9_gravest 30 = .ok (.iload_n 2, 1) := by decide +kernel
theorem dX9_gravest_31 : decode cX9_gravest 31 = .ok (.istore_n 1, 1) := by decide +kernel
theorem dX9_gravest_32 : decode cX9_gravest 32 = .ok (.iinc 2 1, 3) := by decide +kernel
theorem dX9_gravest_35 : decode cX9_gravest 35 = .ok (.goto (-31), 3) := by decide +kernel
theorem dX9_gravest_38 : decode cX9_gravest 38 = .ok (.iload_n 1, 1) := by decide +kernel
theorem dX9_gravest_39 : decode cX9_gravest 39 = .ok (.ireturn, 1) := by decide +kernel
set_option maxHeartbeats 4000000 in
set_option maxRecDepth 100000 in
theorem cJ_gravest {μ ν : Mm} (h : JR0 μ ν)  : CtI PC 1 yX9_gravest cX9_gravest 3 (some .int) [vR 25] μ (best allT (fun t => ν.1 16 (3 * t + 2)) (ν.1 0 26).toNat) := by
  refine ct_intro [some (vR 25), none, none] RX9 (by decide) rfl XCo rfl (Nat.le_of_ble_eq_true rfl) (fun K hO => ?_)
  have hnp := h.B.np
  have hnt := h.B.nt
  have lp : ∀ (c : Nat) (i : Nat) (x : Int), ((i : Int) + c = ν.1 0 26) → (x = best allT (fun t => ν.1 16 (3 * t + 2)) i) → AW K 4 [some (vR 25), some (vI x), some (vI ((i : Nat) : Int))] [] μ := by
    intro c
    induction c with
    | zero =>
      intro i x hi hx
      have hbr := best_rng allT (fun t => ν.1 16 (3 * t + 2)) i
      rw [← hx] at hbr
      refine aw_iload_n hO dX9_gravest_4 rfl rfl ?_
      refine aw_aload_n hO dX9_gravest_5 rfl rfl ?_
      refine gC_X9_19_25 hO dX9_gravest_6 rfl ?_
      refine aw_cg h.T.t ?_
      refine aw_icmp_ge (tgt := 38) hO dX9_gravest_9 rfl rfl (inRn (by omega)) ⟨by omega, by omega⟩ (fun c9 => ?_) (fun c9 => ?_)
      · refine aw_iload_n hO dX9_gravest_38 rfl rfl ?_
        refine aw_iret hO dX9_gravest_39 ?_
        exact rI (by rw [hx, show i = (ν.1 0 26).toNat by omega])
      · exact absurd c9 (by omega)
    | succ c ih =>
      intro i x hi hx
      have hbr := best_rng allT (fun t => ν.1 16 (3 * t + 2)) i
      rw [← hx] at hbr
      refine aw_iload_n hO dX9_gravest_4 rfl rfl ?_
      refine aw_aload_n hO dX9_gravest_5 rfl rfl ?_
      refine gC_X9_19_25 hO dX9_gravest_6 rfl ?_
      refine aw_cg h.T.t ?_
      refine aw_icmp_ge (tgt := 38) hO dX9_gravest_9 rfl rfl (inRn (by omega)) ⟨by omega, by omega⟩ (fun c9 => ?_) (fun c9 => ?_)
      · exact absurd c9 (by omega)
      · refine aw_iload_n hO dX9_gravest_12 rfl rfl ?_
        refine aw_iconst hO dX9_gravest_13 rfl ?_
        refine aw_icmp_eq (tgt := 30) hO dX9_gravest_14 rfl rfl ⟨by omega, by omega⟩ (inRlit _) (fun c14 => ?_) (fun c14 => ?_)
        · refine aw_iload_n hO dX9_gravest_30 rfl rfl ?_
          refine aw_istore_n (ls' := [some (vR 25), some (vI ((i : Nat) : Int)), some (vI ((i : Nat) : Int))]) hO dX9_gravest_31 rfl (Nat.le_of_ble_eq_true rfl) rfl rfl ?_
          refine aw_iinc (ls' := [some (vR 25), some (vI ((i : Nat) : Int)), some (vI (((i : Nat) : Int) + 1))]) hO dX9_gravest_32 rfl rfl rfl rfl ?_
          refine aw_lsq (ls' := [some (vR 25), some (vI ((i : Nat) : Int)), some (vI (((i + 1) : Nat) : Int))]) rfl ?_
          refine aw_goto (tgt := 4) hO dX9_gravest_35 rfl ?_
          refine aw_lsq (ls' := [some (vR 25), some (vI ((i : Nat) : Int)), some (vI (((i + 1) : Nat) : Int))]) rfl ?_
          exact ih (i + 1) (i : Int) (by omega) (by rw [best_succ, if_pos ⟨rfl, Or.inl (by rw [← hx]; exact c14)⟩])
        · have q1 := h.B.tr (t := i) (by omega)
          have q2 := h.B.tr (t := x.toNat) (by omega)
          refine aw_aload_n hO dX9_gravest_17 rfl rfl ?_
          refine aw_iload_n hO dX9_gravest_18 rfl rfl ?_
          refine aw_callVI (as := [vI ((i : Nat) : Int)]) (st := []) hO dX9_gravest_19 rfl (lw_t5 112 rfl rfl) kX9_gravity (T := TX9) rfl (by decide) rfl (cJ_gravity h (t := i) (by omega)) (by decide) rfl rfl rfl (Nat.le_of_ble_eq_true rfl) ?_
          refine aw_aload_n hO dX9_gravest_22 rfl rfl ?_
          refine aw_lsq (ls' := [some (vR 25), some (vI ((x.toNat : Nat) : Int)), some (vI ((i : Nat) : Int))]) (by rw [Int.toNat_of_nonneg (show 0 ≤ x by omega)]) ?_
          refine aw_iload_n hO dX9_gravest_23 rfl rfl ?_
          refine aw_callVI (as := [vI ((x.toNat : Nat) : Int)]) (st := [vI (ν.1 16 (3 * i + 2))]) hO dX9_gravest_24 rfl (lw_t5 112 rfl rfl) kX9_gravity (T := TX9) rfl (by decide) rfl (cJ_gravity h (t := x.toNat) (by omega)) (by decide) rfl rfl rfl (Nat.le_of_ble_eq_true rfl) ?_
          refine aw_icmp_le (tgt := 32) hO dX9_gravest_27 rfl rfl ⟨by omega, by omega⟩ ⟨by omega, by omega⟩ (fun c27 => ?_) (fun c27 => ?_)
          · refine aw_iinc (ls' := [some (vR 25), some (vI ((x.toNat : Nat) : Int)), some (vI (((i : Nat) : Int) + 1))]) hO dX9_gravest_32 rfl rfl rfl rfl ?_
            refine aw_lsq (ls' := [some (vR 25), some (vI ((x.toNat : Nat) : Int)), some (vI (((i + 1) : Nat) : Int))]) rfl ?_
            refine aw_goto (tgt := 4) hO dX9_gravest_35 rfl ?_
            refine aw_lsq (ls' := [some (vR 25), some (vI ((x.toNat : Nat) : Int)), some (vI (((i + 1) : Nat) : Int))]) rfl ?_
            exact ih (i + 1) ((x.toNat : Nat) : Int) (by omega) (by rw [Int.toNat_of_nonneg (show 0 ≤ x by omega), best_succ, if_neg (fun q => q.2.elim (fun q => c14 (by rw [hx]; exact q)) (fun q => by rw [← hx] at q; omega))]; exact hx)
          · refine aw_iload_n hO dX9_gravest_30 rfl rfl ?_
            refine aw_istore_n (ls' := [some (vR 25), some (vI ((i : Nat) : Int)), some (vI ((i : Nat) : Int))]) hO dX9_gravest_31 rfl (Nat.le_of_ble_eq_true rfl) rfl rfl ?_
            refine aw_iinc (ls' := [some (vR 25), some (vI ((i : Nat) : Int)), some (vI (((i : Nat) : Int) + 1))]) hO dX9_gravest_32 rfl rfl rfl rfl ?_
            refine aw_lsq (ls' := [some (vR 25), some (vI ((i : Nat) : Int)), some (vI (((i + 1) : Nat) : Int))]) rfl ?_
            refine aw_goto (tgt := 4) hO dX9_gravest_35 rfl ?_
            refine aw_lsq (ls' := [some (vR 25), some (vI ((i : Nat) : Int)), some (vI (((i + 1) : Nat) : Int))]) rfl ?_
            exact ih (i + 1) (i : Int) (by omega) (by rw [best_succ, if_pos ⟨rfl, Or.inr (by rw [← hx]; exact c27)⟩])
  refine aw_iconst hO dX9_gravest_0 rfl ?_
  refine aw_istore_n (ls' := [some (vR 25), some (vI (-1)), none]) hO dX9_gravest_1 rfl (Nat.le_of_ble_eq_true rfl) rfl rfl ?_
  refine aw_iconst hO dX9_gravest_2 rfl ?_
  refine aw_istore_n (ls' := [some (vR 25), some (vI (-1)), some (vI 0)]) hO dX9_gravest_3 rfl (Nat.le_of_ble_eq_true rfl) rfl rfl ?_
  refine aw_lsq (ls' := [some (vR 25), some (vI (-1)), some (vI ((0 : Nat) : Int))]) rfl ?_
  exact lp (ν.1 0 26).toNat 0 (-1) (by omega) rfl
theorem dX3_inTown_0 : decode cX3_inTown 0 = .ok (.aload_n 0, 1) := by decide +kernel
theorem dX3_inTown_1 : decode cX3_inTown 1 = .ok (.getfield 32, 3) := by decide +kernel
theorem dX3_inTown_4 : decode cX3_inTown 4 = .ok (.invokevirtual 72, 3) := by decide +kernel
theorem dX3_inTown_7 : decode cX3_inTown 7 = .ok (.aload_n 1, 1) := by decide +kernel
theorem dX3_inTown_8 : decode cX3_inTown 8 = .ok (.getfield 65, 3) := by decide +kernel
theorem dX3_inTown_11 : decode cX3_inTown 11 = .ok (.bipush 7, 2) := by decide +kernel
theorem dX3_inTown_13 : decode cX3_inTown 13 = .ok (.iaload, 1) := by decide +kernel
theorem dX3_inTown_14 : decode cX3_inTown 14 = .ok (.iconst (-1), 1) := by decide +kernel
theorem dX3_inTown_15 : decode cX3_inTown 15 = .ok (.ixor, 1) := by decide +kernel
theorem dX3_inTown_16 : decode cX3_inTown 16 = .ok (.iand, 1) := by decide +kernel
theorem dX3_inTown_17 : decode cX3_inTown 17 = .ok (.ireturn, 1) := by decide +kernel
set_option maxHeartbeats 4000000 in
set_option maxRecDepth 100000 in
theorem cJ_inTown {μ ν : Mm} {s : Nat} (h : JR μ s ν)  : CtI PC 1 yX3_inTown cX3_inTown 2 (some .int) [vR 73, vR s] μ (inT ν) := by
  refine ct_intro [some (vR 73), some (vR s)] RX3 (by decide) rfl XCo rfl (Nat.le_of_ble_eq_true rfl) (fun K hO => ?_)
  have hs := h.ob
  have hnp := h.B.np
  have hnt := h.B.nt
  refine aw_aload_n hO dX3_inTown_0 rfl rfl ?_
  refine gC_X3_32_73 hO dX3_inTown_1 rfl ?_
  refine aw_callVI (as := []) (st := []) hO dX3_inTown_4 rfl (lw_t3 233 rfl rfl) kX9_allPersons (T := TX9) rfl (by decide) rfl (cJ_allPersons h.z) (by decide) rfl rfl rfl (Nat.le_of_ble_eq_true rfl) ?_
  refine aw_aload_n hO dX3_inTown_7 rfl rfl ?_
  refine aw_getN (f := 0) hO dX3_inTown_8 rfl okX7 (by decide) (lw_t1n 152 rfl rfl) hs.1 hs.2.1 rfl rfl ?_
  refine aw_bipush hO dX3_inTown_11 rfl (by decide) (by decide) ?_
  refine aw_ialdn (N := 98) (i := 7) hO dX3_inTown_13 rfl hs.2.2.1 hs.2.2.2 (by decide) rfl (by decide) ?_
  refine aw_cg h.S.aw ?_
  refine aw_iconst hO dX3_inTown_14 rfl ?_
  refine aw_ixor hO dX3_inTown_15 rfl ?_
  refine aw_iand hO dX3_inTown_16 rfl ?_
  refine aw_iret hO dX3_inTown_17 ?_
  exact rI rfl
theorem dX3_candidates_0 : decode cX3_candidates 0 = .ok (.aload_n 0, 1) := by decide +kernel
theorem dX3_candidates_1 : decode cX3_candidates 1 = .ok (.aload_n 1, 1) := by decide +kernel
theorem dX3_candidates_2 : decode cX3_candidates 2 = .ok (.invokevirtual 75, 3) := by decide +kernel
theorem dX3_candidates_5 : decode cX3_candidates 5 = .ok (.aload_n 1, 1) := by decide +kernel
theorem dX3_candidates_6 : decode cX3_candidates 6 = .ok (.invokevirtual 79, 3) := by decide +kernel
theorem dX3_candidates_9 : decode cX3_candidates 9 = .ok (.iand, 1) := by decide +kernel
theorem dX3_candidates_10 : decode cX3_candidates 10 = .ok (.ireturn, 1) := by decide +kernel
set_option maxHeartbeats 4000000 in
set_option maxRecDepth 100000 in
theorem cJ_candidates {μ ν : Mm} {s : Nat} (h : JR μ s ν)  : CtI PC 2 yX3_candidates cX3_candidates 2 (some .int) [vR 73, vR s] μ (canT ν) := by
  refine ct_intro [some (vR 73), some (vR s)] RX3 (by decide) rfl XCo rfl (Nat.le_of_ble_eq_true rfl) (fun K hO => ?_)
  have hs := h.ob
  have hnp := h.B.np
  have hnt := h.B.nt
  refine aw_aload_n hO dX3_candidates_0 rfl rfl ?_
  refine aw_aload_n hO dX3_candidates_1 rfl rfl ?_
  refine aw_callVI (as := [vR s]) (st := []) hO dX3_candidates_2 rfl (lw_t3 229 rfl rfl) kX3_inTown (T := TX3) rfl (by decide) rfl (cJ_inTown h) (by decide) rfl rfl rfl (Nat.le_of_ble_eq_true rfl) ?_
  refine aw_aload_n hO dX3_candidates_5 rfl rfl ?_
  refine aw_callVI (as := []) (st := [vI (inT ν)]) hO dX3_candidates_6 rfl (lw_t3 237 rfl rfl) kX7_metBits (T := TX7) rfl hs.1 hs.2.1 (cJ_metBits h.ob h.S h.B.now) (by decide) rfl rfl rfl (Nat.le_of_ble_eq_true rfl) ?_
  refine aw_iand hO dX3_candidates_9 rfl ?_
  refine aw_iret hO dX3_candidates_10 ?_
  exact rI rfl
theorem dX3_weigh_0 : decode cX3_weigh 0 = .ok (.iconst 0, 1) := by decide +kernel
theorem dX3_weigh_1 : decode cX3_weigh 1 = .ok (.istore_n 3, 1) := by decide +kernel
theorem dX3_weigh_2 : decode cX3_weigh 2 = .ok (.iload_n 3, 1) := by decide +kernel
theorem dX3_weigh_3 : decode cX3_weigh 3 = .ok (.aload_n 0, 1) := by decide +kernel
theorem dX3_weigh_4 : decode cX3_weigh 4 = .ok (.getfield 32, 3) := by decide +kernel
theorem dX3_weigh_7 : decode cX3_weigh 7 = .ok (.getfield 92, 3) := by decide +kernel
theorem dX3_weigh_10 : decode cX3_weigh 10 = .ok (.if_icmp .ge 30, 3) := by decide +kernel
theorem dX3_weigh_13 : decode cX3_weigh 13 = .ok (.iload_n 2, 1) := by decide +kernel
theorem dX3_weigh_14 : decode cX3_weigh 14 = .ok (.iload_n 3, 1) := by decide +kernel
theorem dX3_weigh_15 : decode cX3_weigh 15 = .ok (.ishr, 1) := by decide +kernel
theorem dX3_weigh_16 : decode cX3_weigh 16 = .ok (.iconst 1, 1) := by decide +kernel
theorem dX3_weigh_17 : decode cX3_weigh 17 = .ok (.iand, 1) := by decide +kernel
theorem dX3_weigh_18 : decode cX3_weigh 18 = .ok (.iconst 1, 1) := by decide +kernel
theorem dX3_weigh_19 : decode cX3_weigh 19 = .ok (.if_icmp .ne 15, 3) := by decide +kernel
theorem dX3_weigh_22 : decode cX3_weigh 22 = .ok (.aload_n 0, 1) := by decide +kernel
theorem dX3_weigh_23 : decode cX3_weigh 23 = .ok (.getfield 25, 3) := by decide +kernel
theorem dX3_weigh_26 : decode cX3_weigh 26 = .ok (.iload_n 3, 1) := by decide +kernel
theorem dX3_weigh_27 : decode cX3_weigh 27 = .ok (.aload_n 0, 1) := by decide +kernel
theorem dX3_weigh_28 : decode cX3_weigh 28 = .ok (.aload_n 1, 1) := by decide +kernel
theorem dX3_weigh_29 : decode cX3_weigh 29 = .ok (.iload_n 3, 1) := by decide +kernel
theorem dX3_weigh_30 : decode cX3_weigh 30 = .ok (.invokevirtual 96, 3) := by decide +kernel
theorem dX3_weigh_33 : decode cX3_weigh 33 = .ok (.iastore, 1) := by decide +kernel
theorem dX3_weigh_34 : decode cX3_weigh 34 = .ok (.iinc 3 1, 3) := by decide +kernel
theorem dX3_weigh_37 : decode cX3_weigh 37 = .ok (.goto (-35), 3) := by decide +kernel
theorem dX3_weigh_40 : decode cX3_weigh 40 = .ok (.return_, 1) := by decide +kernel
set_option maxRecDepth 100000 in
theorem gC_X3_92_25 {Q : Option AV → Mm → Prop} {K : KT} {cc : ByteArray} {nL d : Nat} {ret : Option FieldType} {pc n : Nat} {ls : List (Option AV)} {st : List AV} {μ : Mm} (hO : KOk PC Q K cc RX3 nL d ret) (hd : decode cc pc = .ok (.getfield 92, 3)) (hn : pc + 3 = n) (kk : AW K n ls (vI (μ.1 25 1) :: st) μ) : AW K pc ls (vR 25 :: st) μ := aw_getN (f := 1) hO hd hn okX9 (by decide) (lw_t1n 83 rfl rfl) (by decide) rfl rfl rfl kk
set_option maxRecDepth 100000 in
theorem gC_X3_25_73 {Q : Option AV → Mm → Prop} {K : KT} {cc : ByteArray} {nL d : Nat} {ret : Option FieldType} {pc n : Nat} {ls : List (Option AV)} {st : List AV} {μ : Mm} (hO : KOk PC Q K cc RX3 nL d ret) (hd : decode cc pc = .ok (.getfield 25, 3)) (hn : pc + 3 = n) (kk : AW K n ls (vR 75 :: st) μ) : AW K pc ls (vR 73 :: st) μ := aw_get (f := 2) hO hd hn okX3 (by decide) (lw_t1 196 rfl rfl) (by decide) rfl rfl rfl kk
set_option maxHeartbeats 4000000 in
set_option maxRecDepth 100000 in
theorem cJ_weigh {μ ν : Mm} {s : Nat} (h : JR μ s ν) {b : Int} : CtV PC 3 yX3_weigh cX3_weigh 4 none [vR 73, vR s, vI b] μ (fun m => Fr jS μ m ∧ ∀ p, m.1 75 p = if p < (ν.1 0 25).toNat ∧ hasB b p = true then appealM ν p else μ.1 75 p) := by
  refine ct_intro [some (vR 73), some (vR s), some (vI b), none] RX3 (by decide) rfl XCo rfl (Nat.le_of_ble_eq_true rfl) (fun K hO => ?_)
  have hs := h.ob
  have hnp := h.B.np
  have hnt := h.B.nt
  have lp : ∀ (c : Nat) (i : Nat) (m : Mm), ((i : Int) + c = ν.1 0 25) → (Fr jS μ m ∧ ∀ p, m.1 75 p = if p < i ∧ hasB b p = true then appealM ν p else μ.1 75 p) → AW K 2 [some (vR 73), some (vR s), some (vI b), some (vI ((i : Nat) : Int))] [] m := by
    intro c
    induction c with
    | zero =>
      intro i m hi hm
      have hJ_m := h.fj hm.1
      refine aw_iload_n hO dX3_weigh_2 rfl rfl ?_
      refine aw_aload_n hO dX3_weigh_3 rfl rfl ?_
      refine gC_X3_32_73 hO dX3_weigh_4 rfl ?_
      refine gC_X3_92_25 hO dX3_weigh_7 rfl ?_
      refine aw_cg hJ_m.z.T.n ?_
      refine aw_icmp_ge (tgt := 40) hO dX3_weigh_10 rfl rfl (inRn (by omega)) ⟨by omega, by omega⟩ (fun c10 => ?_) (fun c10 => ?_)
      · refine aw_vret hO dX3_weigh_40 ?_
        exact ⟨rfl, hm.1, fun p => by rw [hm.2 p, show i = (ν.1 0 25).toNat by omega]⟩
      · exact absurd c10 (by omega)
    | succ c ih =>
      intro i m hi hm
      have hJ_m := h.fj hm.1
      refine aw_iload_n hO dX3_weigh_2 rfl rfl ?_
      refine aw_aload_n hO dX3_weigh_3 rfl rfl ?_
      refine gC_X3_32_73 hO dX3_weigh_4 rfl ?_
      refine gC_X3_92_25 hO dX3_weigh_7 rfl ?_
      refine aw_cg hJ_m.z.T.n ?_
      refine aw_icmp_ge (tgt := 40) hO dX3_weigh_10 rfl rfl (inRn (by omega)) ⟨by omega, by omega⟩ (fun c10 => ?_) (fun c10 => ?_)
      · exact absurd c10 (by omega)
      · refine aw_iload_n hO dX3_weigh_13 rfl rfl ?_
        refine aw_iload_n hO dX3_weigh_14 rfl rfl ?_
        refine aw_ishr hO dX3_weigh_15 rfl ?_
        refine aw_iconst hO dX3_weigh_16 rfl ?_
        refine aw_iand hO dX3_weigh_17 rfl ?_
        refine aw_iconst hO dX3_weigh_18 rfl ?_
        refine aw_icmp_ne (tgt := 34) hO dX3_weigh_19 rfl rfl (bAnd_R _ _) (inRlit _) (fun c19 => ?_) (fun c19 => ?_)
        · have c19b : ¬ hasB b i = true := fun e => c19 (of_decide_eq_true e)
          refine aw_iinc (ls' := [some (vR 73), some (vR s), some (vI b), some (vI (((i : Nat) : Int) + 1))]) hO dX3_weigh_34 rfl rfl rfl rfl ?_
          refine aw_lsq (ls' := [some (vR 73), some (vR s), some (vI b), some (vI (((i + 1) : Nat) : Int))]) rfl ?_
          refine aw_goto (tgt := 2) hO dX3_weigh_37 rfl ?_
          refine aw_lsq (ls' := [some (vR 73), some (vR s), some (vI b), some (vI (((i + 1) : Nat) : Int))]) rfl ?_
          exact ih (i + 1) m (by omega) ⟨hm.1, fun p => by rw [hm.2 p, if_iff (show (p < i ∧ hasB b p = true) ↔ (p < i + 1 ∧ hasB b p = true) from ⟨fun q => ⟨by omega, q.2⟩, fun q => ⟨by rcases Nat.lt_or_ge p i with z | z; exact z; exact absurd (show hasB b i = true by rw [show i = p by omega]; exact q.2) c19b, q.2⟩⟩)]⟩
        · have c19b : hasB b i = true := decide_eq_true c19
          refine aw_aload_n hO dX3_weigh_22 rfl rfl ?_
          refine gC_X3_25_73 hO dX3_weigh_23 rfl ?_
          refine aw_iload_n hO dX3_weigh_26 rfl rfl ?_
          refine aw_aload_n hO dX3_weigh_27 rfl rfl ?_
          refine aw_aload_n hO dX3_weigh_28 rfl rfl ?_
          refine aw_iload_n hO dX3_weigh_29 rfl rfl ?_
          refine aw_callVE (as := [vR s, vI ((i : Nat) : Int)]) (st := [vI ((i : Nat) : Int), vR 75]) hO dX3_weigh_30 rfl (lw_t4 5 rfl rfl) kX3_appealOf (T := TX3) rfl (by decide) rfl (cJ_appealOf hJ_m (p := i) (by omega)) (by decide) rfl rfl rfl (Nat.le_of_ble_eq_true rfl) (fun v1 μ2 hq3 => ?_)
          obtain ⟨e_v1, hF_μ2⟩ := hq3
          have hJ_μ2 := hJ_m.fa hF_μ2
          refine aw_iastn (N := 6) (i := i) hO dX3_weigh_33 rfl (by decide) rfl (by decide) rfl (by omega) ?_
          refine aw_mm (fun μ4 e_μ4 => ?_)
          refine aw_iinc (ls' := [some (vR 73), some (vR s), some (vI b), some (vI (((i : Nat) : Int) + 1))]) hO dX3_weigh_34 rfl rfl rfl rfl ?_
          refine aw_lsq (ls' := [some (vR 73), some (vR s), some (vI b), some (vI (((i + 1) : Nat) : Int))]) rfl ?_
          refine aw_goto (tgt := 2) hO dX3_weigh_37 rfl ?_
          refine aw_lsq (ls' := [some (vR 73), some (vR s), some (vI b), some (vI (((i + 1) : Nat) : Int))]) rfl ?_
          exact ih (i + 1) μ4 (by omega) ⟨by rw [e_μ4]; exact (hm.1.tr (hF_μ2.mono (fun _ _ e => jA_S e))).st (Or.inl rfl) _, fun p => by
            rw [e_μ4]
            by_cases e : p = i
            · subst e; rw [mst_eq, if_pos ⟨by omega, c19b⟩, e_v1]
            · rw [mst_ni e, hF_μ2.1 75 p (by unfold jA; omega), hm.2 p, if_iff (show (p < i ∧ hasB b p = true) ↔ (p < i + 1 ∧ hasB b p = true) from ⟨fun q => ⟨by omega, q.2⟩, fun q => ⟨by omega, q.2⟩⟩)]⟩
  refine aw_iconst hO dX3_weigh_0 rfl ?_
  refine aw_istore_n (ls' := [some (vR 73), some (vR s), some (vI b), some (vI 0)]) hO dX3_weigh_1 rfl (Nat.le_of_ble_eq_true rfl) rfl rfl ?_
  refine aw_lsq (ls' := [some (vR 73), some (vR s), some (vI b), some (vI ((0 : Nat) : Int))]) rfl ?_
  exact lp (ν.1 0 25).toNat 0 μ (by omega) ⟨Fr.rf, fun p => by rw [if_neg (fun q => by omega)]⟩
theorem dX3_mostAppealing_0 : decode cX3_mostAppealing 0 = .ok (.aload_n 0, 1) := by decide +kernel
theorem dX3_mostAppealing_1 : decode cX3_mostAppealing 1 = .ok (.getfield 25, 3) := by decide +kernel
theorem dX3_mostAppealing_4 : decode cX3_mostAppealing 4 = .ok (.iload_n 1, 1) := by decide +kernel
theorem dX3_mostAppealing_5 : decode cX3_mostAppealing 5 = .ok (.invokestatic 106, 3) := by decide +kernel
theorem dX3_mostAppealing_8 : decode cX3_mostAppealing 8 = .ok (.ireturn, 1) := by decide +kernel
set_option maxHeartbeats 4000000 in
set_option maxRecDepth 100000 in
theorem cJ_mostAppealing (μ : Mm) {b : Int} (hR : ∀ p, p < 6 → hasB b p = true → InR (μ.1 75 p)) : CtI PC 1 yX3_mostAppealing cX3_mostAppealing 2 (some .int) [vR 73, vI b] μ (best (fun p => hasB b p) (μ.1 75) 6) := by
  refine ct_intro [some (vR 73), some (vI b)] RX3 (by decide) rfl XCo rfl (Nat.le_of_ble_eq_true rfl) (fun K hO => ?_)
  refine aw_aload_n hO dX3_mostAppealing_0 rfl rfl ?_
  refine gC_X3_25_73 hO dX3_mostAppealing_1 rfl ?_
  refine aw_iload_n hO dX3_mostAppealing_4 rfl rfl ?_
  refine aw_callSNI (as := [vR 75, vI b]) (st := []) hO dX3_mostAppealing_5 rfl (lw_t4n 36 rfl rfl) kX11_highest (ctC_highest μ (r := 75) (by decide) rfl hR) (by decide) rfl rfl rfl (Nat.le_of_ble_eq_true rfl) ?_
  refine aw_iret hO dX3_mostAppealing_8 ?_
  exact rI rfl
theorem dX3_choice_0 : decode cX3_choice 0 = .ok (.aload_n 0, 1) := by decide +kernel
theorem dX3_choice_1 : decode cX3_choice 1 = .ok (.iload_n 1, 1) := by decide +kernel
theorem dX3_choice_2 : decode cX3_choice 2 = .ok (.invokevirtual 100, 3) := by decide +kernel
theorem dX3_choice_5 : decode cX3_choice 5 = .ok (.istore_n 3, 1) := by decide +kernel
theorem dX3_choice_6 : decode cX3_choice 6 = .ok (.iload_n 3, 1) := by decide +kernel
theorem dX3_choice_7 : decode cX3_choice 7 = .ok (.iconst (-1), 1) := by decide +kernel
theorem dX3_choice_8 : decode cX3_choice 8 = .ok (.if_icmp .ne 15, 3) := by decide +kernel
theorem dX3_choice_11 : decode cX3_choice 11 = .ok (.aload_n 0, 1) := by decide +kernel
theorem dX3_choice_12 : decode cX3_choice 12 = .ok (.getfield 32, 3) := by decide +kernel
theorem dX3_choice_15 : decode cX3_choice 15 = .ok (.iconst 2, 1) := by decide +kernel
theorem dX3_choice_16 : decode cX3_choice 16 = .ok (.iload_n 2, 1) := by decide +kernel
theorem dX3_choice_17 : decode cX3_choice 17 = .ok (.invokevirtual 103, 3) := by decide +kernel
theorem dX3_choice_20 : decode cX3_choice 20 = .ok (.goto 4, 3) := by decide +kernel
theorem dX3_choice_23 : decode cX3_choice 23 = .ok (.iload_n 3, 1) := by decide +kernel
theorem dX3_choice_24 : decode cX3_choice 24 = .ok (.ireturn, 1) := by decide +kernel
set_option maxHeartbeats 4000000 in
set_option maxRecDepth 100000 in
theorem cJ_choice {μ ν : Mm} {s : Nat} (h : JR μ s ν) {b t : Int} (hR : ∀ p, p < 6 → hasB b p = true → InR (μ.1 75 p)) : CtI PC 2 yX3_choice cX3_choice 4 (some .int) [vR 73, vI b, vI t] μ (if best (fun p => hasB b p) (μ.1 75) 6 = -1 then best (fun p => hasB t p) (fun p => ν.1 15 (4 * p + 2)) (ν.1 0 25).toNat else best (fun p => hasB b p) (μ.1 75) 6) := by
  refine ct_intro [some (vR 73), some (vI b), some (vI t), none] RX3 (by decide) rfl XCo rfl (Nat.le_of_ble_eq_true rfl) (fun K hO => ?_)
  have hs := h.ob
  have hnp := h.B.np
  have hnt := h.B.nt
  have hbr := best_rng (fun p => hasB b p) (μ.1 75) 6
  refine aw_aload_n hO dX3_choice_0 rfl rfl ?_
  refine aw_iload_n hO dX3_choice_1 rfl rfl ?_
  refine aw_callVI (as := [vI b]) (st := []) hO dX3_choice_2 rfl (lw_t4 32 rfl rfl) kX3_mostAppealing (T := TX3) rfl (by decide) rfl (cJ_mostAppealing μ (b := b) hR) (by decide) rfl rfl rfl (Nat.le_of_ble_eq_true rfl) ?_
  refine aw_istore_n (ls' := [some (vR 73), some (vI b), some (vI t), some (vI (best (fun p => hasB b p) (μ.1 75) 6))]) hO dX3_choice_5 rfl (Nat.le_of_ble_eq_true rfl) rfl rfl ?_
  refine aw_iload_n hO dX3_choice_6 rfl rfl ?_
  refine aw_iconst hO dX3_choice_7 rfl ?_
  refine aw_icmp_ne (tgt := 23) hO dX3_choice_8 rfl rfl ⟨by omega, by omega⟩ (inRlit _) (fun c8 => ?_) (fun c8 => ?_)
  · refine aw_iload_n hO dX3_choice_23 rfl rfl ?_
    refine aw_iret hO dX3_choice_24 ?_
    exact rI (by rw [if_neg c8])
  · refine aw_aload_n hO dX3_choice_11 rfl rfl ?_
    refine gC_X3_32_73 hO dX3_choice_12 rfl ?_
    refine aw_iconst hO dX3_choice_15 rfl ?_
    refine aw_iload_n hO dX3_choice_16 rfl rfl ?_
    refine aw_callVI (as := [vI 2, vI t]) (st := []) hO dX3_choice_17 rfl (lw_t4 39 rfl rfl) kX9_mostOfThese (T := TX9) rfl (by decide) rfl (cJ_mostOfThese h.z (k := 2) (b := t) (by omega)) (by decide) rfl rfl rfl (Nat.le_of_ble_eq_true rfl) ?_
    refine aw_goto (tgt := 24) hO dX3_choice_20 rfl ?_
    refine aw_iret hO dX3_choice_24 ?_
    exact rI (by rw [if_pos c8])
theorem dX3_picked_0 : decode cX3_picked 0 = .ok (.aload_n 0, 1) := by decide +kernel
theorem dX3_picked_1 : decode cX3_picked 1 = .ok (.aload_n 1, 1) := by decide +kernel
theorem dX3_picked_2 : decode cX3_picked 2 = .ok (.invokevirtual 82, 3) := by decide +kernel
theorem dX3_picked_5 : decode cX3_picked 5 = .ok (.istore_n 2, 1) := by decide +kernel
theorem dX3_picked_6 : decode cX3_picked 6 = .ok (.aload_n 0, 1) := by decide +kernel
theorem dX3_picked_7 : decode cX3_picked 7 = .ok (.aload_n 1, 1) := by decide +kernel
theorem dX3_picked_8 : decode cX3_picked 8 = .ok (.iload_n 2, 1) := by decide +kernel
theorem dX3_picked_9 : decode cX3_picked 9 = .ok (.invokevirtual 85, 3) := by decide +kernel
theorem dX3_picked_12 : decode cX3_picked 12 = .ok (.aload_n 0, 1) := by decide +kernel
theorem dX3_picked_13 : decode cX3_picked 13 = .ok (.iload_n 2, 1) := by decide +kernel
theorem dX3_picked_14 : decode cX3_picked 14 = .ok (.aload_n 0, 1) := by decide +kernel
theorem dX3_picked_15 : decode cX3_picked 15 = .ok (.aload_n 1, 1) := by decide +kernel
theorem dX3_picked_16 : decode cX3_picked 16 = .ok (.invokevirtual 75, 3) := by decide +kernel
theorem dX3_picked_19 : decode cX3_picked 19 = .ok (.invokevirtual 89, 3) := by decide +kernel
theorem dX3_picked_22 : decode cX3_picked 22 = .ok (.ireturn, 1) := by decide +kernel
theorem canT_lt {ν : Mm} (h : MB ν) {p : Nat} (hp : p < 6) (ho : hasB (canT ν) p = true) : p < (ν.1 0 25).toNat := by
  rw [hasB_canT h (by omega)] at ho
  simp only [Bool.and_eq_true, decide_eq_true_eq] at ho
  omega
theorem R75 {ν μ : Mm} {b : Int} {n : Nat} {w : Nat → Int} (hA : ∀ p, μ.1 75 p = if p < n ∧ hasB b p = true then appealM ν p else w p) (hb : ∀ p, p < 6 → hasB b p = true → p < n) : ∀ p, p < 6 → hasB b p = true → InR (μ.1 75 p) := fun p hp ho => by
  rw [hA p, if_pos ⟨hb p hp ho, ho⟩]
  have := appealM_R ν p
  exact ⟨by omega, by omega⟩
set_option maxHeartbeats 4000000 in
set_option maxRecDepth 100000 in
theorem cJ_picked {μ ν : Mm} {s : Nat} (h : JR μ s ν)  : CtE PC 4 yX3_picked cX3_picked 3 (some .int) [vR 73, vR s] μ (fun v m => v = pickM ν (ν.1 0 25).toNat ∧ Fr jS μ m) := by
  refine ct_intro [some (vR 73), some (vR s), none] RX3 (by decide) rfl XCo rfl (Nat.le_of_ble_eq_true rfl) (fun K hO => ?_)
  have hs := h.ob
  have hnp := h.B.np
  have hnt := h.B.nt
  refine aw_aload_n hO dX3_picked_0 rfl rfl ?_
  refine aw_aload_n hO dX3_picked_1 rfl rfl ?_
  refine aw_callVI (as := [vR s]) (st := []) hO dX3_picked_2 rfl (lw_t3 225 rfl rfl) kX3_candidates (T := TX3) rfl (by decide) rfl (cJ_candidates h) (by decide) rfl rfl rfl (Nat.le_of_ble_eq_true rfl) ?_
  refine aw_istore_n (ls' := [some (vR 73), some (vR s), some (vI (canT ν))]) hO dX3_picked_5 rfl (Nat.le_of_ble_eq_true rfl) rfl rfl ?_
  refine aw_aload_n hO dX3_picked_6 rfl rfl ?_
  refine aw_aload_n hO dX3_picked_7 rfl rfl ?_
  refine aw_iload_n hO dX3_picked_8 rfl rfl ?_
  refine aw_callVV (as := [vR s, vI (canT ν)]) (st := []) hO dX3_picked_9 rfl (lw_t4 1 rfl rfl) kX3_weigh (T := TX3) rfl (by decide) rfl (cJ_weigh h (b := (canT ν))) (by decide) rfl rfl rfl (Nat.le_of_ble_eq_true rfl) (fun μ2 hq3 => ?_)
  have hF_μ2 := hq3.1
  have hA_μ2 := hq3.2
  have hJ_μ2 := h.fj hF_μ2
  refine aw_aload_n hO dX3_picked_12 rfl rfl ?_
  refine aw_iload_n hO dX3_picked_13 rfl rfl ?_
  refine aw_aload_n hO dX3_picked_14 rfl rfl ?_
  refine aw_aload_n hO dX3_picked_15 rfl rfl ?_
  refine aw_callVI (as := [vR s]) (st := [vI (canT ν), vR 73]) hO dX3_picked_16 rfl (lw_t3 229 rfl rfl) kX3_inTown (T := TX3) rfl (by decide) rfl (cJ_inTown hJ_μ2) (by decide) rfl rfl rfl (Nat.le_of_ble_eq_true rfl) ?_
  refine aw_callVI (as := [vI (canT ν), vI (inT ν)]) (st := []) hO dX3_picked_19 rfl (lw_t4 28 rfl rfl) kX3_choice (T := TX3) rfl (by decide) rfl (cJ_choice hJ_μ2 (b := (canT ν)) (t := (inT ν)) (R75 hA_μ2 (fun p hp ho => canT_lt h.B hp ho))) (by decide) rfl rfl rfl (Nat.le_of_ble_eq_true rfl) ?_
  refine aw_iret hO dX3_picked_22 ?_
  exact ⟨_, rfl, pick_best h.B (fun p hp ho => by rw [hA_μ2 p, if_pos ⟨canT_lt h.B hp ho, ho⟩]), hF_μ2⟩
