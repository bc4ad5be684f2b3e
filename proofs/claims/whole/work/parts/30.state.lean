/-! what an object is, apart from how it is held: rows (lanes, sizes, numbers), the finding, the tape, the fault, the sheet there is, the sheets ahead of the acts, the images, the trace -/
abbrev ST : Type := (Int → Int) × (Int → Int) × (Int → Int → Int) × Int × (Int × (Int → Int)) × Int × VW × (Nat × (Nat → VW)) × (Int → VW) × (Int × (Int → Int))
abbrev s_lan (σ : ST) : Int → Int := σ.1
abbrev s_siz (σ : ST) : Int → Int := σ.2.1
abbrev s_val (σ : ST) : Int → Int → Int := σ.2.2.1
abbrev s_fnd (σ : ST) : Int := σ.2.2.2.1
abbrev s_tap (σ : ST) : Int × (Int → Int) := σ.2.2.2.2.1
abbrev s_flt (σ : ST) : Int := σ.2.2.2.2.2.1
abbrev s_liv (σ : ST) : VW := σ.2.2.2.2.2.2.1
abbrev s_pas (σ : ST) : Nat × (Nat → VW) := σ.2.2.2.2.2.2.2.1
abbrev s_img (σ : ST) : Int → VW := σ.2.2.2.2.2.2.2.2.1
abbrev s_trc (σ : ST) : Int × (Int → Int) := σ.2.2.2.2.2.2.2.2.2
def ZV : VW := fun _ _ => 0
/-- a sheet, or none -/
def WFs (V : VW) : Prop := V = ZV ∨ (WFv V ∧ 0 ≤ V 0 4 ∧ V 0 4 ≤ 9999 ∧ cut V = V)
def WFst (σ : ST) : Prop := (∀ i, 0 ≤ i → i < 8 → -1 ≤ s_lan σ i ∧ s_lan σ i ≤ 2 ∧ 0 ≤ s_siz σ i ∧ s_siz σ i ≤ 40) ∧ (0 ≤ (s_tap σ).1 ∧ (s_tap σ).1 ≤ 80) ∧ (∀ j, 0 ≤ j → j < (s_tap σ).1 → 0 ≤ (s_tap σ).2 j ∧ (s_tap σ).2 j ≤ 255) ∧ WFs (s_liv σ) ∧ ((s_pas σ).1 ≤ 24 ∧ ∀ j, j < (s_pas σ).1 → WFs ((s_pas σ).2 j) ∧ (s_pas σ).2 j ≠ ZV) ∧ (∀ k, 0 ≤ k → k < 2 → WFs (s_img σ k)) ∧ (0 ≤ (s_trc σ).1 ∧ (s_trc σ).1 ≤ 16)
/-- the acts, as the program holds them: a ring of 24 sheets -/
def CSp (h : Mem) (p : Nat × (Nat → VW)) : Prop := h 238 2 = (p.1 : Int) ∧ p.1 ≤ 24 ∧ 0 ≤ h 238 1 ∧ h 238 1 < 24 ∧ ∀ j : Nat, j < p.1 → cV h (240 + 5 * ((h 238 1 + (j : Int)) % 24).toNat) = p.2 j
def CSr (h : Mem) (σ : ST) : Prop := ∀ i, 0 ≤ i → i < 8 → h 2 i = s_lan σ i ∧ h 3 i = s_siz σ i ∧ ∀ j, 0 ≤ j → j < 40 → h (5 + i.toNat) j = s_val σ i j
def CS (h : Mem) (σ : ST) : Prop := CSr h σ ∧ h 0 12 = s_fnd σ ∧ (h 0 2 = (s_tap σ).1 ∧ ∀ j, 0 ≤ j → j < (s_tap σ).1 → h 13 j = (s_tap σ).2 j) ∧ h 0 11 = s_flt σ ∧ cV h 16 = s_liv σ ∧ CSp h (s_pas σ) ∧ (∀ k, 0 ≤ k → k < 2 → cV h (361 + 5 * k.toNat) = s_img σ k) ∧ (h 371 2 = (s_trc σ).1 ∧ ∀ j, 0 ≤ j → j < (s_trc σ).1 → h 372 j = (s_trc σ).2 j)
/-- the cells that these are -/
def KC (c : Nat) : Prop := c ≤ 13 ∨ (16 ≤ c ∧ c ≤ 20) ∨ (238 ≤ c ∧ c ≤ 372)
theorem CSp.fr {h h' : Mem} {p : Nat × (Nat → VW)} (f : ∀ c, 238 ≤ c → c ≤ 359 → h' c = h c) (hC : CSp h p) : CSp h' p := by
  obtain ⟨c1, c2, c3, c4, c5⟩ := hC
  have e : h' 238 = h 238 := f 238 (by omega) (by omega)
  refine ⟨by rw [e]; exact c1, c2, by rw [e]; exact c3, by rw [e]; exact c4, fun j hj => ?_⟩
  rw [e, ← c5 j hj]
  exact cV_congr (fun k _ _ => by rw [f _ (by omega) (by omega)]) (fun j k _ _ _ _ => by rw [f _ (by omega) (by omega)])
theorem CSr.fr {h h' : Mem} {σ : ST} (f : ∀ c, 2 ≤ c → c ≤ 12 → h' c = h c) (hC : CSr h σ) : CSr h' σ := fun i i0 i1 => by
  obtain ⟨a, b, c⟩ := hC i i0 i1
  exact ⟨by rw [f 2 (by omega) (by omega)]; exact a, by rw [f 3 (by omega) (by omega)]; exact b, fun j j0 j1 => by rw [f _ (by omega) (by omega)]; exact c j j0 j1⟩
theorem CS.fr {h h' : Mem} {σ : ST} (f : ∀ c, KC c → h' c = h c) (hC : CS h σ) : CS h' σ := by
  obtain ⟨c1, c2, c3, c4, c5, c6, c7, c8⟩ := hC
  have g : ∀ c, (c ≤ 13 ∨ (16 ≤ c ∧ c ≤ 20) ∨ (238 ≤ c ∧ c ≤ 372)) → h' c = h c := f
  refine ⟨c1.fr (fun c _ _ => g c (by omega)), by rw [g 0 (by omega)]; exact c2, ⟨by rw [g 0 (by omega)]; exact c3.1, fun j j0 j1 => by rw [g 13 (by omega)]; exact c3.2 j j0 j1⟩, by rw [g 0 (by omega)]; exact c4, ?_, c6.fr (fun c _ _ => g c (by omega)), fun k k0 k1 => ?_, ⟨by rw [g 371 (by omega)]; exact c8.1, fun j j0 j1 => by rw [g 372 (by omega)]; exact c8.2 j j0 j1⟩⟩
  · rw [← c5]
    exact cV_congr (fun k _ _ => by rw [g _ (by omega)]) (fun j k _ _ _ _ => by rw [g _ (by omega)])
  · rw [← c7 k k0 k1]
    exact cV_congr (fun k _ _ => by rw [g _ (by omega)]) (fun j k _ _ _ _ => by rw [g _ (by omega)])
/-- an act's sheet comes behind the others; of more than 24 the oldest goes -/
def pushP (p : Nat × (Nat → VW)) (V : VW) : Nat × (Nat → VW) := if p.1 < 24 then (p.1 + 1, fun j => if j = p.1 then V else p.2 j) else (24, fun j => if j = 23 then V else p.2 (j + 1))
section PAST
variable {e q n L : Nat} {h : Mem}
set_option maxHeartbeats 1000000 in
theorem c_X3_remember {p : Nat × (Nat → VW)} (hC : CSp h p) (hc : h 16 0 ≤ 12) :
    Sem M_X3_remember [vR 238, vR 16] (TT e q n L) h 0 0 (fun v t' h' => v = none ∧ t' = TT e q n L ∧ CSp h' (pushP p (cV h 16)) ∧ ∀ c, c < 238 ∨ 359 < c → h' c = h c) := by
  obtain ⟨c1, c2, c3, c4, c5⟩ := hC
  refine sem_intro (by decide) rfl (Nat.le_of_ble_eq_true rfl) rfl ?_
  refine aw_aload_n dX3_remember_0 rfl ?_
  refine aw_getR1 dX3_remember_1 fx_RX3_11 (by first | assumption | rfl) (by first | assumption | rfl) ?_
  refine aw_aload_n dX3_remember_4 rfl ?_
  refine aw_getI dX3_remember_5 fx_RX3_16 (by first | assumption | rfl) ?_
  refine aw_aload_n dX3_remember_8 rfl ?_
  refine aw_getI dX3_remember_9 fx_RX3_20 (by first | assumption | rfl) ?_
  refine aw_iadd dX3_remember_12 (by omega) (by omega) ?_
  refine aw_bipush dX3_remember_13 (by decide) (by decide) ?_
  refine aw_irem dX3_remember_15 (by omega) (by omega) ?_
  refine aw_aaload1 dX3_remember_16 (by first | assumption | rfl) (by decide) (by omega) (by omega) (rf_past (by omega) (by omega)) ?_
  refine aw_aload_n dX3_remember_17 rfl ?_
  refine aw_v1q dX3_remember_18 vl_RX3_23 (sh_past (by omega)).1 (Nat.le_of_ble_eq_true rfl) (Nat.le_of_ble_eq_true rfl) (Nat.le_of_ble_eq_true rfl) (Nat.le_refl _) (Nat.le_refl _) (c_X7_takeFrom (sh_past (by omega)) sh_16 (by omega) hc) ?_
  intro v t' h1 hq
  obtain ⟨rfl, rfl, f1, f2⟩ := hq
  have e38 : h1 238 = h 238 := f2 238 (by omega)
  have ek : ∀ j : Nat, j < 24 → j ≠ ((h 238 1 + h 238 2) % 24).toNat → cV h1 (240 + 5 * j) = cV h (240 + 5 * j) := fun j hj hne => f2.cV (by omega)
  refine aw_aload_n dX3_remember_21 rfl ?_
  refine aw_getI dX3_remember_22 fx_RX3_20 (by first | assumption | rfl) ?_
  refine aw_bipush dX3_remember_25 (by decide) (by decide) ?_
  refine aw_icmp_ge 43 dX3_remember_27 rfl (fun c27 => ?_) (fun c27 => ?_)
  · refine aw_aload_n dX3_remember_43 rfl ?_
    refine aw_aload_n dX3_remember_44 rfl ?_
    refine aw_getI dX3_remember_45 fx_RX3_16 (by first | assumption | rfl) ?_
    rw [show h1 238 1 = h 238 1 by rw [e38]]
    refine aw_iconst dX3_remember_48 (by decide) (by decide) ?_
    refine aw_iadd dX3_remember_49 (by omega) (by omega) ?_
    refine aw_bipush dX3_remember_50 (by decide) (by decide) ?_
    refine aw_irem dX3_remember_52 (by omega) (by omega) ?_
    refine aw_putI dX3_remember_53 fp_RX3_16 (by first | assumption | rfl) ?_
    refine aw_return dX3_remember_56 rfl (Nat.le_refl _) (Nat.le_refl _) ?_
    refine ⟨rfl, rfl, ?_, fun c hc => by rw [am_up_ne (by omega)]; exact f2 c (by omega)⟩
    have ekk : ∀ j : Nat, j < 24 → ∀ x y : Int, cV (am_up h1 238 x y) (240 + 5 * j) = cV h1 (240 + 5 * j) := fun j hj x y => cV_congr (fun k _ _ => by rw [am_up_ne (by omega)]) (fun i k _ _ _ _ => by rw [am_up_ne (by omega)])
    unfold pushP
    have hlt : ¬ p.1 < 24 := by rw [e38] at c27; omega
    rw [if_neg hlt]
    have ho : am_up h1 238 1 ((h 238 1 + 1) % 24) 238 1 = (h 238 1 + 1) % 24 := by simp [am_up]
    refine ⟨by simp [am_up, e38]; omega, Nat.le_refl 24, by rw [ho]; omega, by rw [ho]; omega, fun j hj => ?_⟩
    have hj2 : j < 24 := hj
    rw [ho, ekk _ (by omega)]
    show _ = (if j = 23 then cV h 16 else p.2 (j + 1))
    by_cases ej : j = 23
    · rw [if_pos ej, ← f1, ej]
      congr 2
      omega
    · rw [if_neg ej, show (((h 238 1 + 1) % 24 + (j : Int)) % 24).toNat = ((h 238 1 + ((j + 1 : Nat) : Int)) % 24).toNat by omega, ek _ (by omega) (by omega)]
      exact c5 (j + 1) (by omega)
  · refine aw_aload_n dX3_remember_30 rfl ?_
    refine aw_dup dX3_remember_31 rfl ?_
    refine aw_getI dX3_remember_32 fx_RX3_20 (by first | assumption | rfl) ?_
    refine aw_iconst dX3_remember_35 (by decide) (by decide) ?_
    rw [show h1 238 2 = h 238 2 by rw [e38]]
    refine aw_iadd dX3_remember_36 (by omega) (by omega) ?_
    refine aw_putI dX3_remember_37 fp_RX3_20 (by first | assumption | rfl) ?_
    refine aw_goto 56 dX3_remember_40 rfl ?_
    refine aw_return dX3_remember_56 rfl (Nat.le_refl _) (Nat.le_refl _) ?_
    refine ⟨rfl, rfl, ?_, fun c hc => by rw [am_up_ne (by omega)]; exact f2 c (by omega)⟩
    have ekk : ∀ j : Nat, j < 24 → ∀ x y : Int, cV (am_up h1 238 x y) (240 + 5 * j) = cV h1 (240 + 5 * j) := fun j hj x y => cV_congr (fun k _ _ => by rw [am_up_ne (by omega)]) (fun i k _ _ _ _ => by rw [am_up_ne (by omega)])
    unfold pushP
    have hlt : p.1 < 24 := by rw [e38] at c27; omega
    rw [if_pos hlt]
    refine ⟨by simp [am_up, c1], by show p.1 + 1 ≤ 24; omega, by simp [am_up, e38]; exact c3, by simp [am_up, e38]; exact c4, fun j hj => ?_⟩
    have hj2 : j < p.1 + 1 := hj
    have eo : am_up h1 238 2 (h 238 2 + 1) 238 1 = h 238 1 := by simp [am_up, e38]
    rw [eo, ekk _ (by omega)]
    show _ = (if j = p.1 then cV h 16 else p.2 j)
    by_cases ej : j = p.1
    · rw [if_pos ej, ← f1, ej, ← c1]
    · rw [if_neg ej, ek _ (by omega) (by omega)]
      exact c5 j (by omega)
end PAST
