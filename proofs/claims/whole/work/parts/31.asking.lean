def popP (p : Nat × (Nat → VW)) : Nat × (Nat → VW) := (p.1 - 1, p.2)
section PA2
variable {e q n L : Nat} {h : Mem}
set_option maxHeartbeats 1000000 in
theorem c_X3_bringBack {p : Nat × (Nat → VW)} (hC : CSp h p) (hp : 0 < p.1) (hc : (p.2 (p.1 - 1)) 0 0 ≤ 12) :
    Sem M_X3_bringBack [vR 238, vR 16] (TT e q n L) h 0 0 (fun v t' h' => v = none ∧ t' = TT e q n L ∧ CSp h' (popP p) ∧ cV h' 16 = p.2 (p.1 - 1) ∧ ∀ c, c ≠ 238 → (c < 16 ∨ 20 < c) → h' c = h c) := by
  obtain ⟨p1, p2, p3, p4, p5⟩ := hC
  have p6 := p5 (p.1 - 1) (by omega)
  have ea : (h 238 1 + ((p.1 - 1 : Nat) : Int)) % 24 = (h 238 1 + (h 238 2 - 1)) % 24 := by omega
  rw [ea] at p6
  have ecc : h (240 + 5 * ((h 238 1 + (h 238 2 - 1)) % 24).toNat) 0 ≤ 12 := by rw [← cVc (h := h), p6]; exact hc
  have e1 : am_up h 238 2 (h 238 2 - 1) 238 1 = h 238 1 := by simp [am_up]
  have e2 : am_up h 238 2 (h 238 2 - 1) 238 2 = h 238 2 - 1 := by simp [am_up]
  have ek : ∀ j : Nat, j < 24 → cV (am_up h 238 2 (h 238 2 - 1)) (240 + 5 * j) = cV h (240 + 5 * j) := fun j hj => cV_congr (fun k _ _ => by rw [am_up_ne (by omega)]) (fun i k _ _ _ _ => by rw [am_up_ne (by omega)])
  refine sem_intro (by decide) rfl (Nat.le_of_ble_eq_true rfl) rfl ?_
  refine aw_aload_n dX3_bringBack_0 rfl ?_
  refine aw_getI dX3_bringBack_1 fx_RX3_20 (by first | assumption | rfl) ?_
  refine aw_if_le 38 dX3_bringBack_4 rfl (fun c4 => ?_) (fun c4 => ?_)
  · exfalso; omega
  · refine aw_aload_n dX3_bringBack_7 rfl ?_
    refine aw_dup dX3_bringBack_8 rfl ?_
    refine aw_getI dX3_bringBack_9 fx_RX3_20 (by first | assumption | rfl) ?_
    refine aw_iconst dX3_bringBack_12 (by decide) (by decide) ?_
    refine aw_isub dX3_bringBack_13 (by omega) (by omega) ?_
    refine aw_putI dX3_bringBack_14 fp_RX3_20 (by first | assumption | rfl) ?_
    refine aw_aload_n dX3_bringBack_17 rfl ?_
    refine aw_aload_n dX3_bringBack_18 rfl ?_
    refine aw_getR1 dX3_bringBack_19 fx_RX3_11 (by first | assumption | rfl) (by first | assumption | rfl) ?_
    refine aw_aload_n dX3_bringBack_22 rfl ?_
    refine aw_getI dX3_bringBack_23 fx_RX3_16 (by first | assumption | rfl) ?_
    refine aw_aload_n dX3_bringBack_26 rfl ?_
    refine aw_getI dX3_bringBack_27 fx_RX3_20 (by first | assumption | rfl) ?_
    rw [e1, e2]
    refine aw_iadd dX3_bringBack_30 (by omega) (by omega) ?_
    refine aw_bipush dX3_bringBack_31 (by decide) (by decide) ?_
    refine aw_irem dX3_bringBack_33 (by omega) (by omega) ?_
    refine aw_aaload1 dX3_bringBack_34 (by first | assumption | rfl) (by decide) (by omega) (by omega) (rf_past (by omega) (by omega)) ?_
    refine aw_v1q dX3_bringBack_35 vl_RX3_23 sh_16.1 (Nat.le_of_ble_eq_true rfl) (Nat.le_of_ble_eq_true rfl) (Nat.le_of_ble_eq_true rfl) (Nat.le_refl _) (Nat.le_refl _) (c_X7_takeFrom sh_16 (sh_past (by omega)) (by omega) (by rw [am_up_ne (by omega)]; exact ecc)) ?_
    intro v t' h1 hq
    obtain ⟨rfl, rfl, f1, f2⟩ := hq
    have e38 : h1 238 = am_up h 238 2 (h 238 2 - 1) 238 := f2 238 (by omega)
    refine aw_return dX3_bringBack_38 rfl (Nat.le_refl _) (Nat.le_refl _) ?_
    refine ⟨rfl, rfl, ⟨?_, ?_, ?_, ?_, fun j hj => ?_⟩, ?_, fun c q1 q2 => by rw [f2 c (by omega), am_up_ne q1]⟩
    · rw [e38, e2]; show _ = ((p.1 - 1 : Nat) : Int); omega
    · show p.1 - 1 ≤ 24; omega
    · rw [e38, e1]; exact p3
    · rw [e38, e1]; exact p4
    · have hj2 : j < p.1 - 1 := hj
      rw [e38, e1, f2.cV (by omega), ek _ (by omega)]
      exact p5 j (by omega)
    · rw [f1, ek _ (by omega)]; exact p6
theorem c_X3_forget {p : Nat × (Nat → VW)} (hC : CSp h p) : Sem M_X3_forget [vR 238] (TT e q n L) h 0 0 (fun v t' h' => v = none ∧ t' = TT e q n L ∧ CSp h' (0, p.2) ∧ ∀ c, c ≠ 238 → h' c = h c) := by
  obtain ⟨c1, c2, c3, c4, c5⟩ := hC
  refine sem_intro (by decide) rfl (Nat.le_of_ble_eq_true rfl) rfl ?_
  refine aw_aload_n dX3_forget_0 rfl ?_
  refine aw_iconst dX3_forget_1 (by decide) (by decide) ?_
  refine aw_putI dX3_forget_2 fp_RX3_20 (by first | assumption | rfl) ?_
  refine aw_return dX3_forget_5 rfl (Nat.le_refl _) (Nat.le_refl _) ?_
  exact ⟨rfl, rfl, ⟨by simp [am_up], Nat.zero_le 24, by simp [am_up]; exact c3, by simp [am_up]; exact c4, fun j hj => absurd hj (Nat.not_lt_zero j)⟩, fun c hc => am_up_ne hc⟩
end PA2
/-! the trace -/
abbrev TR : Type := Int × (Int → Int)
def pushT (T : TR) (b : Int) : TR := if T.1 < 16 then (T.1 + 1, fun j => if j = T.1 then b else T.2 j) else T
def trs (T : TR) : List Int → TR
  | [] => T
  | b :: bs => trs (pushT T b) bs
def CSt (h : Mem) (T : TR) : Prop := h 371 2 = T.1 ∧ 0 ≤ T.1 ∧ T.1 ≤ 16 ∧ ∀ j, 0 ≤ j → j < T.1 → h 372 j = T.2 j
theorem pushT_bd {T : TR} {b : Int} (h0 : 0 ≤ T.1) (h1 : T.1 ≤ 16) : 0 ≤ (pushT T b).1 ∧ (pushT T b).1 ≤ 16 := by
  unfold pushT
  split
  · show 0 ≤ T.1 + 1 ∧ T.1 + 1 ≤ 16; omega
  · exact ⟨h0, h1⟩
theorem trs_bd : ∀ {bs : List Int} {T : TR}, 0 ≤ T.1 → T.1 ≤ 16 → 0 ≤ (trs T bs).1 ∧ (trs T bs).1 ≤ 16
  | [], _, h0, h1 => ⟨h0, h1⟩
  | b :: bs, T, h0, h1 => trs_bd (bs := bs) (pushT_bd h0 h1).1 (pushT_bd h0 h1).2
theorem trs_app {T : TR} : ∀ {a b : List Int}, trs T (a ++ b) = trs (trs T a) b := by
  intro a
  induction a generalizing T with
  | nil => intro b; rfl
  | cons x a ih => intro b; exact ih
/-- what is asked: the bodies that begin, and the answer -/
def mkR (V : VW) (i : Int) : Int := if V 1 i = 3 then i + V 3 i - 1000 else if V 1 i = 2 then (i + V 3 i) * 2 else i + V 3 i
def mkRb (V : VW) (i : Int) : List Int := if V 1 i = 3 then [22, 21, 20] else if V 1 i = 2 then [24, 21, 20] else [21, 20]
def szR (V : VW) (i : Int) : Int := if V 1 i = 2 then 0 - (wd V i + mkR V i) else wd V i + mkR V i
def szRb (V : VW) (i : Int) : List Int := (if V 1 i = 2 then [12, 11, 10] else [11, 10]) ++ mkRb V i
def szW (V : VW) (i : Int) : Int := if V 1 i = 5 then (wd V i - 100) * 2 else wd V i - 100
def szWb (V : VW) (i : Int) : List Int := if V 1 i = 5 then [14, 13, 10] else [13, 10]
def mkW (V : VW) (i : Int) : Int := i - szW V i
def mkWb (V : VW) (i : Int) : List Int := [23, 20] ++ szWb V i
section ASK
variable {e q n L : Nat} {h : Mem}
theorem c_wide16 {i : Int} (hro : RO h) (hV : WFv (cV h 16)) (h0 : 0 ≤ i) (h1 : i < h 16 0) : SemE M_X7_wideBy [vR 16, vR 19, vI i] (TT e q n L) h (some (vI (wd (cV h 16) i))) (TT e q n L) h := by
  have e9 : wd (cV h 16) i = wdg (cV h 16) (h 19) i := wdg_h hV h0 h1 (fun j hj => cV3 (by omega) hj)
  rw [e9]
  refine c_X7_wideBy sh_16 rfl rfl hro hV (fun k k0 k1 => ?_) h0 h1
  have := hV.2.2.2.2.2.2.2.2 k k0 (by rw [cVc]; exact k1)
  rw [cV3 k0 k1] at this
  exact ⟨by show 0 ≤ h (16 + 3) k; omega, by show h (16 + 3) k ≤ 99; omega⟩
theorem c_X0_begin {T : TR} {b : Int} (hC : CSt h T) : Sem M_X0_begin [vR 371, vI b] (TT e q n L) h 0 0 (fun v t' h' => v = none ∧ t' = TT e q n L ∧ CSt h' (pushT T b) ∧ ∀ c, c ≠ 371 → c ≠ 372 → h' c = h c) := by
  obtain ⟨c1, c2, c3, c4⟩ := hC
  refine sem_intro (by decide) rfl (Nat.le_of_ble_eq_true rfl) rfl ?_
  refine aw_aload_n dX0_begin_0 rfl ?_
  refine aw_getI dX0_begin_1 fx_RX0_19 (by first | assumption | rfl) ?_
  refine aw_aload_n dX0_begin_4 rfl ?_
  refine aw_getR1 dX0_begin_5 fx_RX0_9 (by first | assumption | rfl) (by first | assumption | rfl) ?_
  refine aw_arraylength dX0_begin_8 (by first | assumption | rfl) rfl (by decide) ?_
  refine aw_icmp_ge 32 dX0_begin_9 rfl (fun c9 => ?_) (fun c9 => ?_)
  · refine aw_return dX0_begin_32 rfl (Nat.le_refl _) (Nat.le_refl _) ?_
    refine ⟨rfl, rfl, ?_, fun c _ _ => rfl⟩
    unfold pushT
    rw [if_neg (by omega)]
    exact ⟨c1, c2, c3, c4⟩
  · refine aw_aload_n dX0_begin_12 rfl ?_
    refine aw_getR1 dX0_begin_13 fx_RX0_9 (by first | assumption | rfl) (by first | assumption | rfl) ?_
    refine aw_aload_n dX0_begin_16 rfl ?_
    refine aw_getI dX0_begin_17 fx_RX0_19 (by first | assumption | rfl) ?_
    refine aw_iload_n dX0_begin_20 rfl ?_
    refine aw_iastore dX0_begin_21 (by first | assumption | rfl) (by omega) (by omega) (by omega) ?_
    refine aw_aload_n dX0_begin_22 rfl ?_
    refine aw_dup dX0_begin_23 rfl ?_
    refine aw_getI dX0_begin_24 fx_RX0_19 (by first | assumption | rfl) ?_
    refine aw_iconst dX0_begin_27 (by decide) (by decide) ?_
    rw [am_up_ne (by decide)]
    refine aw_iadd dX0_begin_28 (by omega) (by omega) ?_
    refine aw_putI dX0_begin_29 fp_RX0_19 (by first | assumption | rfl) ?_
    refine aw_return dX0_begin_32 rfl (Nat.le_refl _) (Nat.le_refl _) ?_
    refine ⟨rfl, rfl, ?_, fun c q1 q2 => by rw [am_up_ne q1, am_up_ne q2]⟩
    unfold pushT
    rw [if_pos (by omega)]
    refine ⟨by simp [am_up, c1], by show 0 ≤ T.1 + 1; omega, by show T.1 + 1 ≤ 16; omega, fun j j0 j1 => ?_⟩
    have j2 : j < T.1 + 1 := j1
    show _ = (if j = T.1 then b else T.2 j)
    rw [am_up_ne (by decide)]
    by_cases ej : j = T.1
    · rw [if_pos ej]; simp [am_up, c1, ej]
    · rw [if_neg ej]; simp [am_up, c1, ej]; exact c4 j j0 (by omega)
theorem c_X0_clear {T : TR} : Sem M_X0_clear [vR 371] (TT e q n L) h 0 0 (fun v t' h' => v = none ∧ t' = TT e q n L ∧ CSt h' (0, T.2) ∧ ∀ c, c ≠ 371 → h' c = h c) := by
  refine sem_intro (by decide) rfl (Nat.le_of_ble_eq_true rfl) rfl ?_
  refine aw_aload_n dX0_clear_0 rfl ?_
  refine aw_iconst dX0_clear_1 (by decide) (by decide) ?_
  refine aw_putI dX0_clear_2 fp_RX0_19 (by first | assumption | rfl) ?_
  refine aw_return dX0_clear_5 rfl (Nat.le_refl _) (Nat.le_refl _) ?_
  exact ⟨rfl, rfl, ⟨by simp [am_up], by show (0 : Int) ≤ 0; omega, by show (0 : Int) ≤ 16; omega, fun j j0 j1 => absurd j1 (by show ¬ j < 0; omega)⟩, fun c hc => am_up_ne hc⟩
theorem c_X0_lentSize {T : TR} {i : Int} (hC : CSt h T) (hro : RO h) (hV : WFv (cV h 16)) (i0 : 0 ≤ i) (i1 : i < h 16 0) : Sem M_X0_lentSize [vR 371, vI i] (TT e q n L) h 0 0 (fun v t' h' => v = some (vI (wd (cV h 16) i)) ∧ t' = TT e q n L ∧ CSt h' (pushT T 10) ∧ ∀ c, c ≠ 371 → c ≠ 372 → h' c = h c) := by
  refine sem_intro (by decide) rfl (Nat.le_of_ble_eq_true rfl) rfl ?_
  refine aw_aload_n dX0_lentSize_0 rfl ?_
  refine aw_bipush dX0_lentSize_1 (by decide) (by decide) ?_
  refine aw_v1q dX0_lentSize_3 vl_RX0_28 (by first | assumption | rfl) (Nat.le_of_ble_eq_true rfl) (Nat.le_of_ble_eq_true rfl) (Nat.le_of_ble_eq_true rfl) (Nat.le_refl _) (Nat.le_refl _) (c_X0_begin hC) ?_
  intro v t' h1 hq
  obtain ⟨rfl, rfl, f1, f2⟩ := hq
  have eV : cV h1 16 = cV h 16 := cV_congr (fun k _ _ => by rw [f2 _ (by decide) (by decide)]) (fun j k _ _ _ _ => by rw [f2 _ (by omega) (by omega)])
  refine aw_aload_n dX0_lentSize_6 rfl ?_
  refine aw_getR1 dX0_lentSize_7 fx_RX0_15 (by first | assumption | rfl) (by first | assumption | rfl) ?_
  refine aw_aload_n dX0_lentSize_10 rfl ?_
  refine aw_getR1 dX0_lentSize_11 fx_RX0_15 (by first | assumption | rfl) (by first | assumption | rfl) ?_
  refine aw_getR1 dX0_lentSize_14 fx_RX0_42 (by first | assumption | rfl) (by first | assumption | rfl) ?_
  refine aw_iload_n dX0_lentSize_17 rfl ?_
  refine aw_v2i dX0_lentSize_18 vl_RX0_48 (by first | assumption | rfl) (Nat.le_of_ble_eq_true rfl) (Nat.le_of_ble_eq_true rfl) (Nat.le_of_ble_eq_true rfl) (Nat.le_refl _) (Nat.le_refl _) (c_wide16 (fun j j0 j1 => by rw [f2 _ (by decide) (by decide)]; exact hro j j0 j1) (by rw [eV]; exact hV) i0 (by rw [f2 _ (by decide) (by decide)]; exact i1)) ?_
  refine aw_ireturn dX0_lentSize_21 rfl (Nat.le_refl _) (Nat.le_refl _) ?_
  exact ⟨by rw [eV], rfl, f1, f2⟩
theorem c_X0_lentMark {T : TR} {i : Int} (hC : CSt h T) : Sem M_X0_lentMark [vR 371, vI i] (TT e q n L) h 0 0 (fun v t' h' => v = some (vI i) ∧ t' = TT e q n L ∧ CSt h' (pushT T 20) ∧ ∀ c, c ≠ 371 → c ≠ 372 → h' c = h c) := by
  refine sem_intro (by decide) rfl (Nat.le_of_ble_eq_true rfl) rfl ?_
  refine aw_aload_n dX0_lentMark_0 rfl ?_
  refine aw_bipush dX0_lentMark_1 (by decide) (by decide) ?_
  refine aw_v1q dX0_lentMark_3 vl_RX0_28 (by first | assumption | rfl) (Nat.le_of_ble_eq_true rfl) (Nat.le_of_ble_eq_true rfl) (Nat.le_of_ble_eq_true rfl) (Nat.le_refl _) (Nat.le_refl _) (c_X0_begin hC) ?_
  intro v t' h1 hq
  obtain ⟨rfl, rfl, f1, f2⟩ := hq
  refine aw_iload_n dX0_lentMark_6 rfl ?_
  refine aw_ireturn dX0_lentMark_7 rfl (Nat.le_refl _) (Nat.le_refl _) ?_
  exact ⟨rfl, rfl, f1, f2⟩
def ASKp (h : Mem) (T : TR) (v : Option AV) (x : Int) (h' : Mem) (bs : List Int) : Prop := v = some (vI x) ∧ CSt h' (trs T bs) ∧ ∀ c, c ≠ 371 → c ≠ 372 → h' c = h c
theorem cV_16 {h h' : Mem} (f : ∀ c, c ≠ 371 → c ≠ 372 → h' c = h c) : cV h' 16 = cV h 16 := cV_congr (fun k _ _ => by rw [f _ (by decide) (by decide)]) (fun j k _ _ _ _ => by rw [f _ (by omega) (by omega)])
theorem RO_16 {h h' : Mem} (f : ∀ c, c ≠ 371 → c ≠ 372 → h' c = h c) (r : RO h) : RO h' := fun j j0 j1 => by rw [f _ (by decide) (by decide)]; exact r j j0 j1
theorem c_X0_markOfReference {T : TR} {i : Int} (hC : CSt h T) (hV : WFv (cV h 16)) (i0 : 0 ≤ i) (i1 : i < h 16 0) : Sem M_X0_markOfReference [vR 371, vI i] (TT e q n L) h 0 0 (fun v t' h' => t' = TT e q n L ∧ ASKp h T v (mkR (cV h 16) i) h' (mkRb (cV h 16) i)) := by
  have w2 := hV.2.1
  rw [cVc] at w2
  have wi := hV.2.2.2.2.2.2.2.2 i i0 (by rw [cVc]; exact i1)
  have k1 : cV h 16 1 i = h 17 i := cV1 i0 i1
  have k3 : cV h 16 3 i = h 19 i := cV3 i0 i1
  rw [k1, k3] at wi
  unfold ASKp mkR mkRb
  rw [k1, k3]
  refine sem_intro (by decide) rfl (Nat.le_of_ble_eq_true rfl) rfl ?_
  refine aw_aload_n dX0_markOfReference_0 rfl ?_
  refine aw_getR1 dX0_markOfReference_1 fx_RX0_15 (by first | assumption | rfl) (by first | assumption | rfl) ?_
  refine aw_getR1 dX0_markOfReference_4 fx_RX0_23 (by first | assumption | rfl) (by first | assumption | rfl) ?_
  refine aw_iload_n dX0_markOfReference_7 rfl ?_
  refine aw_iaload dX0_markOfReference_8 (by first | assumption | rfl) (by omega) (by omega) ?_
  refine aw_istore_n (ls' := [_, _, _, _]) dX0_markOfReference_9 (by decide) rfl ?_
  refine aw_iload_n dX0_markOfReference_10 rfl ?_
  refine aw_iconst dX0_markOfReference_11 (by decide) (by decide) ?_
  refine aw_icmp_ne 24 dX0_markOfReference_12 rfl (fun c12 => ?_) (fun c12 => ?_)
  · refine aw_iload_n dX0_markOfReference_24 rfl ?_
    refine aw_iconst dX0_markOfReference_25 (by decide) (by decide) ?_
    refine aw_icmp_ne 35 dX0_markOfReference_26 rfl (fun c26 => ?_) (fun c26 => ?_)
    · refine aw_aload_n dX0_markOfReference_35 rfl ?_
      refine aw_bipush dX0_markOfReference_36 (by decide) (by decide) ?_
      refine aw_v1q dX0_markOfReference_38 vl_RX0_28 (by first | assumption | rfl) (Nat.le_of_ble_eq_true rfl) (Nat.le_of_ble_eq_true rfl) (Nat.le_of_ble_eq_true rfl) (Nat.le_refl _) (Nat.le_refl _) (c_X0_begin (by assumption)) ?_
      intro v t' h2 hq
      obtain ⟨rfl, rfl, f3, f4⟩ := hq
      refine aw_aload_n dX0_markOfReference_41 rfl ?_
      refine aw_iload_n dX0_markOfReference_42 rfl ?_
      refine aw_v1q dX0_markOfReference_43 vl_RX0_39 (by first | assumption | rfl) (Nat.le_of_ble_eq_true rfl) (Nat.le_of_ble_eq_true rfl) (Nat.le_of_ble_eq_true rfl) (Nat.le_refl _) (Nat.le_refl _) (c_X0_lentMark (by assumption)) ?_
      intro v t' h3 hq
      obtain ⟨rfl, rfl, f5, f6⟩ := hq
      refine aw_aload_n dX0_markOfReference_46 rfl ?_
      refine aw_getR1 dX0_markOfReference_47 fx_RX0_15 (by first | assumption | rfl) (by first | assumption | rfl) ?_
      refine aw_getR1 dX0_markOfReference_50 fx_RX0_42 (by first | assumption | rfl) (by first | assumption | rfl) ?_
      refine aw_iload_n dX0_markOfReference_53 rfl ?_
      refine aw_iaload dX0_markOfReference_54 (by first | assumption | rfl) (by omega) (by omega) ?_
      rw [show h3 19 i = h 19 i by first | rw [f6 _ (by decide) (by decide), f4 _ (by decide) (by decide), f2 _ (by decide) (by decide)] | rw [f6 _ (by decide) (by decide), f4 _ (by decide) (by decide)]]
      refine aw_iadd dX0_markOfReference_55 (by omega) (by omega) ?_
      refine aw_istore_n (ls' := [_, _, _, _]) dX0_markOfReference_56 (by decide) rfl ?_
      refine aw_iload_n dX0_markOfReference_57 rfl ?_
      refine aw_iconst dX0_markOfReference_58 (by decide) (by decide) ?_
      refine aw_icmp_ne 68 dX0_markOfReference_59 rfl (fun c59 => ?_) (fun c59 => ?_)
      · refine aw_iload_n dX0_markOfReference_68 rfl ?_
        refine aw_iconst dX0_markOfReference_69 (by decide) (by decide) ?_
        refine aw_icmp_ne 79 dX0_markOfReference_70 rfl (fun c70 => ?_) (fun c70 => ?_)
        · refine aw_iload_n dX0_markOfReference_79 rfl ?_
          refine aw_ireturn dX0_markOfReference_80 rfl (Nat.le_refl _) (Nat.le_refl _) ?_
          first | (exfalso; omega) | (refine ⟨rfl, ?_⟩; first | (rw [if_pos (by omega), if_pos (by omega)]; exact ⟨rfl, f5, fun c q1 q2 => by rw [f6 c q1 q2, f4 c q1 q2, f2 c q1 q2]⟩) | (rw [if_neg (by omega), if_pos (by omega), if_neg (by omega), if_pos (by omega)]; exact ⟨rfl, f5, fun c q1 q2 => by rw [f6 c q1 q2, f4 c q1 q2, f2 c q1 q2]⟩) | (rw [if_neg (by omega), if_neg (by omega), if_neg (by omega), if_neg (by omega)]; exact ⟨rfl, f5, fun c q1 q2 => by rw [f6 c q1 q2, f4 c q1 q2]⟩))
        · refine aw_iload_n dX0_markOfReference_73 rfl ?_
          refine aw_iconst dX0_markOfReference_74 (by decide) (by decide) ?_
          refine aw_imul dX0_markOfReference_75 (by omega) (by omega) ?_
          refine aw_goto 80 dX0_markOfReference_76 rfl ?_
          refine aw_ireturn dX0_markOfReference_80 rfl (Nat.le_refl _) (Nat.le_refl _) ?_
          first | (exfalso; omega) | (refine ⟨rfl, ?_⟩; first | (rw [if_pos (by omega), if_pos (by omega)]; exact ⟨rfl, f5, fun c q1 q2 => by rw [f6 c q1 q2, f4 c q1 q2, f2 c q1 q2]⟩) | (rw [if_neg (by omega), if_pos (by omega), if_neg (by omega), if_pos (by omega)]; exact ⟨rfl, f5, fun c q1 q2 => by rw [f6 c q1 q2, f4 c q1 q2, f2 c q1 q2]⟩) | (rw [if_neg (by omega), if_neg (by omega), if_neg (by omega), if_neg (by omega)]; exact ⟨rfl, f5, fun c q1 q2 => by rw [f6 c q1 q2, f4 c q1 q2]⟩))
      · refine aw_iload_n dX0_markOfReference_62 rfl ?_
        refine aw_sipush dX0_markOfReference_63 (by decide) (by decide) ?_
        refine aw_isub dX0_markOfReference_66 (by omega) (by omega) ?_
        refine aw_ireturn dX0_markOfReference_67 rfl (Nat.le_refl _) (Nat.le_refl _) ?_
        first | (exfalso; omega) | (refine ⟨rfl, ?_⟩; first | (rw [if_pos (by omega), if_pos (by omega)]; exact ⟨rfl, f5, fun c q1 q2 => by rw [f6 c q1 q2, f4 c q1 q2, f2 c q1 q2]⟩) | (rw [if_neg (by omega), if_pos (by omega), if_neg (by omega), if_pos (by omega)]; exact ⟨rfl, f5, fun c q1 q2 => by rw [f6 c q1 q2, f4 c q1 q2, f2 c q1 q2]⟩) | (rw [if_neg (by omega), if_neg (by omega), if_neg (by omega), if_neg (by omega)]; exact ⟨rfl, f5, fun c q1 q2 => by rw [f6 c q1 q2, f4 c q1 q2]⟩))
    · refine aw_aload_n dX0_markOfReference_29 rfl ?_
      refine aw_bipush dX0_markOfReference_30 (by decide) (by decide) ?_
      refine aw_v1q dX0_markOfReference_32 vl_RX0_28 (by first | assumption | rfl) (Nat.le_of_ble_eq_true rfl) (Nat.le_of_ble_eq_true rfl) (Nat.le_of_ble_eq_true rfl) (Nat.le_refl _) (Nat.le_refl _) (c_X0_begin (by assumption)) ?_
      intro v t' h1 hq
      obtain ⟨rfl, rfl, f1, f2⟩ := hq
      refine aw_aload_n dX0_markOfReference_35 rfl ?_
      refine aw_bipush dX0_markOfReference_36 (by decide) (by decide) ?_
      refine aw_v1q dX0_markOfReference_38 vl_RX0_28 (by first | assumption | rfl) (Nat.le_of_ble_eq_true rfl) (Nat.le_of_ble_eq_true rfl) (Nat.le_of_ble_eq_true rfl) (Nat.le_refl _) (Nat.le_refl _) (c_X0_begin (by assumption)) ?_
      intro v t' h2 hq
      obtain ⟨rfl, rfl, f3, f4⟩ := hq
      refine aw_aload_n dX0_markOfReference_41 rfl ?_
      refine aw_iload_n dX0_markOfReference_42 rfl ?_
      refine aw_v1q dX0_markOfReference_43 vl_RX0_39 (by first | assumption | rfl) (Nat.le_of_ble_eq_true rfl) (Nat.le_of_ble_eq_true rfl) (Nat.le_of_ble_eq_true rfl) (Nat.le_refl _) (Nat.le_refl _) (c_X0_lentMark (by assumption)) ?_
      intro v t' h3 hq
      obtain ⟨rfl, rfl, f5, f6⟩ := hq
      refine aw_aload_n dX0_markOfReference_46 rfl ?_
      refine aw_getR1 dX0_markOfReference_47 fx_RX0_15 (by first | assumption | rfl) (by first | assumption | rfl) ?_
      refine aw_getR1 dX0_markOfReference_50 fx_RX0_42 (by first | assumption | rfl) (by first | assumption | rfl) ?_
      refine aw_iload_n dX0_markOfReference_53 rfl ?_
      refine aw_iaload dX0_markOfReference_54 (by first | assumption | rfl) (by omega) (by omega) ?_
      rw [show h3 19 i = h 19 i by first | rw [f6 _ (by decide) (by decide), f4 _ (by decide) (by decide), f2 _ (by decide) (by decide)] | rw [f6 _ (by decide) (by decide), f4 _ (by decide) (by decide)]]
      refine aw_iadd dX0_markOfReference_55 (by omega) (by omega) ?_
      refine aw_istore_n (ls' := [_, _, _, _]) dX0_markOfReference_56 (by decide) rfl ?_
      refine aw_iload_n dX0_markOfReference_57 rfl ?_
      refine aw_iconst dX0_markOfReference_58 (by decide) (by decide) ?_
      refine aw_icmp_ne 68 dX0_markOfReference_59 rfl (fun c59 => ?_) (fun c59 => ?_)
      · refine aw_iload_n dX0_markOfReference_68 rfl ?_
        refine aw_iconst dX0_markOfReference_69 (by decide) (by decide) ?_
        refine aw_icmp_ne 79 dX0_markOfReference_70 rfl (fun c70 => ?_) (fun c70 => ?_)
        · refine aw_iload_n dX0_markOfReference_79 rfl ?_
          refine aw_ireturn dX0_markOfReference_80 rfl (Nat.le_refl _) (Nat.le_refl _) ?_
          first | (exfalso; omega) | (refine ⟨rfl, ?_⟩; first | (rw [if_pos (by omega), if_pos (by omega)]; exact ⟨rfl, f5, fun c q1 q2 => by rw [f6 c q1 q2, f4 c q1 q2, f2 c q1 q2]⟩) | (rw [if_neg (by omega), if_pos (by omega), if_neg (by omega), if_pos (by omega)]; exact ⟨rfl, f5, fun c q1 q2 => by rw [f6 c q1 q2, f4 c q1 q2, f2 c q1 q2]⟩) | (rw [if_neg (by omega), if_neg (by omega), if_neg (by omega), if_neg (by omega)]; exact ⟨rfl, f5, fun c q1 q2 => by rw [f6 c q1 q2, f4 c q1 q2]⟩))
        · refine aw_iload_n dX0_markOfReference_73 rfl ?_
          refine aw_iconst dX0_markOfReference_74 (by decide) (by decide) ?_
          refine aw_imul dX0_markOfReference_75 (by omega) (by omega) ?_
          refine aw_goto 80 dX0_markOfReference_76 rfl ?_
          refine aw_ireturn dX0_markOfReference_80 rfl (Nat.le_refl _) (Nat.le_refl _) ?_
          first | (exfalso; omega) | (refine ⟨rfl, ?_⟩; first | (rw [if_pos (by omega), if_pos (by omega)]; exact ⟨rfl, f5, fun c q1 q2 => by rw [f6 c q1 q2, f4 c q1 q2, f2 c q1 q2]⟩) | (rw [if_neg (by omega), if_pos (by omega), if_neg (by omega), if_pos (by omega)]; exact ⟨rfl, f5, fun c q1 q2 => by rw [f6 c q1 q2, f4 c q1 q2, f2 c q1 q2]⟩) | (rw [if_neg (by omega), if_neg (by omega), if_neg (by omega), if_neg (by omega)]; exact ⟨rfl, f5, fun c q1 q2 => by rw [f6 c q1 q2, f4 c q1 q2]⟩))
      · refine aw_iload_n dX0_markOfReference_62 rfl ?_
        refine aw_sipush dX0_markOfReference_63 (by decide) (by decide) ?_
        refine aw_isub dX0_markOfReference_66 (by omega) (by omega) ?_
        refine aw_ireturn dX0_markOfReference_67 rfl (Nat.le_refl _) (Nat.le_refl _) ?_
        first | (exfalso; omega) | (refine ⟨rfl, ?_⟩; first | (rw [if_pos (by omega), if_pos (by omega)]; exact ⟨rfl, f5, fun c q1 q2 => by rw [f6 c q1 q2, f4 c q1 q2, f2 c q1 q2]⟩) | (rw [if_neg (by omega), if_pos (by omega), if_neg (by omega), if_pos (by omega)]; exact ⟨rfl, f5, fun c q1 q2 => by rw [f6 c q1 q2, f4 c q1 q2, f2 c q1 q2]⟩) | (rw [if_neg (by omega), if_neg (by omega), if_neg (by omega), if_neg (by omega)]; exact ⟨rfl, f5, fun c q1 q2 => by rw [f6 c q1 q2, f4 c q1 q2]⟩))
  · refine aw_aload_n dX0_markOfReference_15 rfl ?_
    refine aw_bipush dX0_markOfReference_16 (by decide) (by decide) ?_
    refine aw_v1q dX0_markOfReference_18 vl_RX0_28 (by first | assumption | rfl) (Nat.le_of_ble_eq_true rfl) (Nat.le_of_ble_eq_true rfl) (Nat.le_of_ble_eq_true rfl) (Nat.le_refl _) (Nat.le_refl _) (c_X0_begin (by assumption)) ?_
    intro v t' h1 hq
    obtain ⟨rfl, rfl, f1, f2⟩ := hq
    refine aw_goto 35 dX0_markOfReference_21 rfl ?_
    refine aw_aload_n dX0_markOfReference_35 rfl ?_
    refine aw_bipush dX0_markOfReference_36 (by decide) (by decide) ?_
    refine aw_v1q dX0_markOfReference_38 vl_RX0_28 (by first | assumption | rfl) (Nat.le_of_ble_eq_true rfl) (Nat.le_of_ble_eq_true rfl) (Nat.le_of_ble_eq_true rfl) (Nat.le_refl _) (Nat.le_refl _) (c_X0_begin (by assumption)) ?_
    intro v t' h2 hq
    obtain ⟨rfl, rfl, f3, f4⟩ := hq
    refine aw_aload_n dX0_markOfReference_41 rfl ?_
    refine aw_iload_n dX0_markOfReference_42 rfl ?_
    refine aw_v1q dX0_markOfReference_43 vl_RX0_39 (by first | assumption | rfl) (Nat.le_of_ble_eq_true rfl) (Nat.le_of_ble_eq_true rfl) (Nat.le_of_ble_eq_true rfl) (Nat.le_refl _) (Nat.le_refl _) (c_X0_lentMark (by assumption)) ?_
    intro v t' h3 hq
    obtain ⟨rfl, rfl, f5, f6⟩ := hq
    refine aw_aload_n dX0_markOfReference_46 rfl ?_
    refine aw_getR1 dX0_markOfReference_47 fx_RX0_15 (by first | assumption | rfl) (by first | assumption | rfl) ?_
    refine aw_getR1 dX0_markOfReference_50 fx_RX0_42 (by first | assumption | rfl) (by first | assumption | rfl) ?_
    refine aw_iload_n dX0_markOfReference_53 rfl ?_
    refine aw_iaload dX0_markOfReference_54 (by first | assumption | rfl) (by omega) (by omega) ?_
    rw [show h3 19 i = h 19 i by first | rw [f6 _ (by decide) (by decide), f4 _ (by decide) (by decide), f2 _ (by decide) (by decide)] | rw [f6 _ (by decide) (by decide), f4 _ (by decide) (by decide)]]
    refine aw_iadd dX0_markOfReference_55 (by omega) (by omega) ?_
    refine aw_istore_n (ls' := [_, _, _, _]) dX0_markOfReference_56 (by decide) rfl ?_
    refine aw_iload_n dX0_markOfReference_57 rfl ?_
    refine aw_iconst dX0_markOfReference_58 (by decide) (by decide) ?_
    refine aw_icmp_ne 68 dX0_markOfReference_59 rfl (fun c59 => ?_) (fun c59 => ?_)
    · refine aw_iload_n dX0_markOfReference_68 rfl ?_
      refine aw_iconst dX0_markOfReference_69 (by decide) (by decide) ?_
      refine aw_icmp_ne 79 dX0_markOfReference_70 rfl (fun c70 => ?_) (fun c70 => ?_)
      · refine aw_iload_n dX0_markOfReference_79 rfl ?_
        refine aw_ireturn dX0_markOfReference_80 rfl (Nat.le_refl _) (Nat.le_refl _) ?_
        first | (exfalso; omega) | (refine ⟨rfl, ?_⟩; first | (rw [if_pos (by omega), if_pos (by omega)]; exact ⟨rfl, f5, fun c q1 q2 => by rw [f6 c q1 q2, f4 c q1 q2, f2 c q1 q2]⟩) | (rw [if_neg (by omega), if_pos (by omega), if_neg (by omega), if_pos (by omega)]; exact ⟨rfl, f5, fun c q1 q2 => by rw [f6 c q1 q2, f4 c q1 q2, f2 c q1 q2]⟩) | (rw [if_neg (by omega), if_neg (by omega), if_neg (by omega), if_neg (by omega)]; exact ⟨rfl, f5, fun c q1 q2 => by rw [f6 c q1 q2, f4 c q1 q2]⟩))
      · refine aw_iload_n dX0_markOfReference_73 rfl ?_
        refine aw_iconst dX0_markOfReference_74 (by decide) (by decide) ?_
        refine aw_imul dX0_markOfReference_75 (by omega) (by omega) ?_
        refine aw_goto 80 dX0_markOfReference_76 rfl ?_
        refine aw_ireturn dX0_markOfReference_80 rfl (Nat.le_refl _) (Nat.le_refl _) ?_
        first | (exfalso; omega) | (refine ⟨rfl, ?_⟩; first | (rw [if_pos (by omega), if_pos (by omega)]; exact ⟨rfl, f5, fun c q1 q2 => by rw [f6 c q1 q2, f4 c q1 q2, f2 c q1 q2]⟩) | (rw [if_neg (by omega), if_pos (by omega), if_neg (by omega), if_pos (by omega)]; exact ⟨rfl, f5, fun c q1 q2 => by rw [f6 c q1 q2, f4 c q1 q2, f2 c q1 q2]⟩) | (rw [if_neg (by omega), if_neg (by omega), if_neg (by omega), if_neg (by omega)]; exact ⟨rfl, f5, fun c q1 q2 => by rw [f6 c q1 q2, f4 c q1 q2]⟩))
    · refine aw_iload_n dX0_markOfReference_62 rfl ?_
      refine aw_sipush dX0_markOfReference_63 (by decide) (by decide) ?_
      refine aw_isub dX0_markOfReference_66 (by omega) (by omega) ?_
      refine aw_ireturn dX0_markOfReference_67 rfl (Nat.le_refl _) (Nat.le_refl _) ?_
      first | (exfalso; omega) | (refine ⟨rfl, ?_⟩; first | (rw [if_pos (by omega), if_pos (by omega)]; exact ⟨rfl, f5, fun c q1 q2 => by rw [f6 c q1 q2, f4 c q1 q2, f2 c q1 q2]⟩) | (rw [if_neg (by omega), if_pos (by omega), if_neg (by omega), if_pos (by omega)]; exact ⟨rfl, f5, fun c q1 q2 => by rw [f6 c q1 q2, f4 c q1 q2, f2 c q1 q2]⟩) | (rw [if_neg (by omega), if_neg (by omega), if_neg (by omega), if_neg (by omega)]; exact ⟨rfl, f5, fun c q1 q2 => by rw [f6 c q1 q2, f4 c q1 q2]⟩))
end ASK
