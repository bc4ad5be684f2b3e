/-! the reference: what its cells hold -/
def MS (h : Mem) (σ : ST) : Prop :=
  (∀ i, 0 ≤ i → i < 8 → h 374 i = (if s_lan σ i = -1 then -1000000 else s_lan σ i) ∧ h 375 i = s_siz σ i ∧ ∀ j, 0 ≤ j → j < 40 → h 376 (40 * i + j) = s_val σ i j) ∧
  h 373 4 = s_fnd σ ∧ (h 373 6 = (s_tap σ).1 ∧ ∀ j, 0 ≤ j → j < (s_tap σ).1 → h 378 j = (s_tap σ).2 j) ∧ h 373 7 = s_flt σ ∧ mV h 379 0 = s_liv σ ∧
  (h 373 17 = ((s_pas σ).1 : Int) ∧ (s_pas σ).1 ≤ 24 ∧ ∀ j : Nat, j < (s_pas σ).1 → mV h 382 (53 * (j : Int)) = (s_pas σ).2 j) ∧
  (∀ k, 0 ≤ k → k < 2 → h 384 k = (if s_img σ k 0 0 = 0 then 0 else 1) ∧ mV h 383 (53 * k) = s_img σ k) ∧
  (h 373 27 = (s_trc σ).1 ∧ ∀ j, 0 ≤ j → j < (s_trc σ).1 → h 388 j = (s_trc σ).2 j)
/-- the reference's cells that hold it -/
def MK (c : Nat) : Prop := c = 374 ∨ c = 375 ∨ c = 376 ∨ c = 378 ∨ c = 379 ∨ c = 382 ∨ c = 383 ∨ c = 384 ∨ c = 388
/-- nothing but what is tried has changed -/
def SM (h h' : Mem) : Prop := (∀ c, c < 373 ∨ 388 < c ∨ MK c → h' c = h c) ∧ ∀ k : Int, k < 8 ∨ (12 < k ∧ k < 23) ∨ 25 < k → h' 373 k = h 373 k
theorem SM.rf {h : Mem} : SM h h := ⟨fun _ _ => rfl, fun _ _ => rfl⟩
theorem SM.tr {h h' h2 : Mem} (a : SM h h') (b : SM h' h2) : SM h h2 := ⟨fun c hc => (b.1 c hc).trans (a.1 c hc), fun k hk => (b.2 k hk).trans (a.2 k hk)⟩
theorem mV_congr {h h' : Mem} {a b : Nat} {o p : Int} (e : ∀ k, 0 ≤ k → k < 53 → h' b (p + k) = h a (o + k)) (hc : h a (o + 3) ≤ 12) : mV h' b p = mV h a o := by
  have e0 := e 0 (by omega) (by omega)
  simp only [Int.add_zero] at e0
  unfold mV
  refine cut_eq (fun k k0 k1 => ?_) (fun j k j0 j5 k0 k1 => ?_)
  · have hk : k = 0 ∨ k = 1 ∨ k = 2 ∨ k = 3 ∨ k = 4 := by omega
    rcases hk with rfl | rfl | rfl | rfl | rfl
    · exact e 3 (by omega) (by omega)
    · exact e0
    · exact e 1 (by omega) (by omega)
    · exact e 2 (by omega) (by omega)
    · exact e 4 (by omega) (by omega)
  · have k2 : k < h a (o + 3) := by
      have : k < h' b (p + 3) := k1
      rw [e 3 (by omega) (by omega)] at this
      exact this
    unfold mS
    rw [if_neg j0, if_neg j0]
    have := e (5 + 4 * k + ((j : Int) - 1)) (by omega) (by omega)
    rw [show p + (5 + 4 * k + ((j : Int) - 1)) = p + 5 + 4 * k + ((j : Int) - 1) by omega, show o + (5 + 4 * k + ((j : Int) - 1)) = o + 5 + 4 * k + ((j : Int) - 1) by omega] at this
    exact this
theorem SM.ms {h h' : Mem} {σ : ST} (f : SM h h') (hM : MS h σ) : MS h' σ := by
  obtain ⟨f1, f2⟩ := f
  obtain ⟨m1, m2, m3, m4, m5, m6, m7, m8⟩ := hM
  have g : ∀ c, MK c → h' c = h c := fun c hc => f1 c (Or.inr (Or.inr hc))
  have eV : ∀ (c : Nat) (o : Int), h' c = h c → mV h' c o = mV h c o := fun c o e => by unfold mV mS; rw [e]
  refine ⟨fun i i0 i1 => ?_, ?_, ?_, ?_, ?_, ?_, fun k k0 k1 => ?_, ?_⟩
  · rw [g 374 (by unfold MK; omega), g 375 (by unfold MK; omega), g 376 (by unfold MK; omega)]; exact m1 i i0 i1
  · rw [f2 4 (by omega)]; exact m2
  · rw [f2 6 (by omega), g 378 (by unfold MK; omega)]; exact m3
  · rw [f2 7 (by omega)]; exact m4
  · rw [eV 379 0 (g 379 (by unfold MK; omega))]; exact m5
  · rw [f2 17 (by omega)]
    refine ⟨m6.1, m6.2.1, fun j hj => ?_⟩
    rw [eV 382 _ (g 382 (by unfold MK; omega))]; exact m6.2.2 j hj
  · rw [g 384 (by unfold MK; omega), eV 383 _ (g 383 (by unfold MK; omega))]; exact m7 k k0 k1
  · rw [f2 27 (by omega), g 388 (by unfold MK; omega)]; exact m8
/-- the contract of the reference's public calls -/
def PM (sp : Int × ST) (h : Mem) (t : Tp) : Option AV → Tp → Mem → Prop := fun v t' h' => v = some (vI sp.1) ∧ t' = t ∧ MS h' sp.2 ∧ ∀ c, c < 373 ∨ 388 < c → h' c = h c
section MOD
variable {t : Tp} {h : Mem}
theorem c_X9_in {v a b : Int} : SemE M_X9_in [vI v, vI a, vI b] t h (some (vI (if a ≤ v ∧ v ≤ b then 1 else 0))) t h := by
  refine sem_intro (by decide) rfl (Nat.le_of_ble_eq_true rfl) rfl ?_
  refine aw_iload_n dX9_in_0 rfl ?_
  refine aw_iload_n dX9_in_1 rfl ?_
  refine aw_icmp_lt 14 dX9_in_2 rfl (fun c2 => ?_) (fun c2 => ?_)
  · refine aw_iconst dX9_in_14 (by decide) (by decide) ?_
    refine aw_zreturn dX9_in_15 rfl (Nat.le_refl _) (Nat.le_refl _) (by first | decide | omega | (split <;> omega)) (by first | decide | omega | (split <;> omega)) ?_
    exact ⟨am_ri (by first | (rw [if_pos (by omega)]; done) | (rw [if_neg (by omega)]; done)), rfl, rfl⟩
  · refine aw_iload_n dX9_in_5 rfl ?_
    refine aw_iload_n dX9_in_6 rfl ?_
    refine aw_icmp_gt 14 dX9_in_7 rfl (fun c7 => ?_) (fun c7 => ?_)
    · refine aw_iconst dX9_in_14 (by decide) (by decide) ?_
      refine aw_zreturn dX9_in_15 rfl (Nat.le_refl _) (Nat.le_refl _) (by first | decide | omega | (split <;> omega)) (by first | decide | omega | (split <;> omega)) ?_
      exact ⟨am_ri (by first | (rw [if_pos (by omega)]; done) | (rw [if_neg (by omega)]; done)), rfl, rfl⟩
    · refine aw_iconst dX9_in_10 (by decide) (by decide) ?_
      refine aw_goto 15 dX9_in_11 rfl ?_
      refine aw_zreturn dX9_in_15 rfl (Nat.le_refl _) (Nat.le_refl _) (by first | decide | omega | (split <;> omega)) (by first | decide | omega | (split <;> omega)) ?_
      exact ⟨am_ri (by first | (rw [if_pos (by omega)]; done) | (rw [if_neg (by omega)]; done)), rfl, rfl⟩
theorem c_X9_has {x i : Nat} (hx : x ≤ 2147483647) (hi : i < 32) : SemE M_X9_has [vI x, vI i] t h (some (vI (if x / 2 ^ i % 2 = 1 then 1 else 0))) t h := by
  have bt := bit_eq hx hi
  refine sem_intro (by decide) rfl (Nat.le_of_ble_eq_true rfl) rfl ?_
  refine aw_iload_n dX9_has_0 rfl ?_
  refine aw_iload_n dX9_has_1 rfl ?_
  refine aw_ishrw dX9_has_2 ?_
  refine aw_iconst dX9_has_3 (by decide) (by decide) ?_
  refine aw_iandw dX9_has_4 ?_
  rw [bt]
  refine aw_iconst dX9_has_5 (by decide) (by decide) ?_
  refine aw_icmp_ne 13 dX9_has_6 rfl (fun c6 => ?_) (fun c6 => ?_)
  · refine aw_iconst dX9_has_13 (by decide) (by decide) ?_
    refine aw_zreturn dX9_has_14 rfl (Nat.le_refl _) (Nat.le_refl _) (by first | decide | omega) (by first | decide | omega) ?_
    exact ⟨am_ri (by first | (rw [if_pos (by omega)]; done) | (rw [if_neg (by omega)]; done)), rfl, rfl⟩
  · refine aw_iconst dX9_has_9 (by decide) (by decide) ?_
    refine aw_goto 14 dX9_has_10 rfl ?_
    refine aw_zreturn dX9_has_14 rfl (Nat.le_refl _) (Nat.le_refl _) (by first | decide | omega) (by first | decide | omega) ?_
    exact ⟨am_ri (by first | (rw [if_pos (by omega)]; done) | (rw [if_neg (by omega)]; done)), rfl, rfl⟩
theorem c_X9_isRow {r : Int} : SemE M_X9_isRow [vI r] t h (some (vI (if 0 ≤ r ∧ r ≤ 7 then 1 else 0))) t h := by
  refine sem_intro (by decide) rfl (Nat.le_of_ble_eq_true rfl) rfl ?_
  refine aw_iload_n dX9_isRow_0 rfl ?_
  refine aw_iconst dX9_isRow_1 (by decide) (by decide) ?_
  refine aw_bipush dX9_isRow_2 (by decide) (by decide) ?_
  refine aw_s3i dX9_isRow_4 sl_RX9_62 (Nat.le_of_ble_eq_true rfl) (Nat.le_of_ble_eq_true rfl) (Nat.le_of_ble_eq_true rfl) (Nat.le_refl _) (Nat.le_refl _) (c_X9_in) ?_
  refine aw_zreturn dX9_isRow_7 rfl (Nat.le_refl _) (Nat.le_refl _) (by split <;> omega) (by split <;> omega) ?_
  exact ⟨rfl, rfl, rfl⟩
theorem c_X9_romanSigns {f : Int} (h0 : 0 ≤ f) (h1 : f ≤ 9) : SemE M_X9_romanSigns [vI f] t h (some (vI (rs f))) t h := by
  unfold rs
  refine sem_intro (by decide) rfl (Nat.le_of_ble_eq_true rfl) rfl ?_
  refine aw_iload_n dX9_romanSigns_0 rfl ?_
  refine aw_bipush dX9_romanSigns_1 (by decide) (by decide) ?_
  refine aw_icmp_eq 11 dX9_romanSigns_3 rfl (fun c3 => ?_) (fun c3 => ?_)
  · refine aw_iconst dX9_romanSigns_11 (by decide) (by decide) ?_
    refine aw_goto 27 dX9_romanSigns_12 rfl ?_
    refine aw_ireturn dX9_romanSigns_27 rfl (Nat.le_refl _) (Nat.le_refl _) ?_
    exact ⟨am_ri (by first | (rw [if_pos (by omega)]; done) | (rw [if_neg (by omega), if_pos (by omega)]; done) | (rw [if_neg (by omega), if_neg (by omega)]; done)), rfl, rfl⟩
  · refine aw_iload_n dX9_romanSigns_6 rfl ?_
    refine aw_iconst dX9_romanSigns_7 (by decide) (by decide) ?_
    refine aw_icmp_ne 15 dX9_romanSigns_8 rfl (fun c8 => ?_) (fun c8 => ?_)
    · refine aw_iload_n dX9_romanSigns_15 rfl ?_
      refine aw_iconst dX9_romanSigns_16 (by decide) (by decide) ?_
      refine aw_icmp_le 26 dX9_romanSigns_17 rfl (fun c17 => ?_) (fun c17 => ?_)
      · refine aw_iload_n dX9_romanSigns_26 rfl ?_
        refine aw_ireturn dX9_romanSigns_27 rfl (Nat.le_refl _) (Nat.le_refl _) ?_
        exact ⟨am_ri (by first | (rw [if_pos (by omega)]; done) | (rw [if_neg (by omega), if_pos (by omega)]; done) | (rw [if_neg (by omega), if_neg (by omega)]; done)), rfl, rfl⟩
      · refine aw_iload_n dX9_romanSigns_20 rfl ?_
        refine aw_iconst dX9_romanSigns_21 (by decide) (by decide) ?_
        refine aw_isub dX9_romanSigns_22 (by omega) (by omega) ?_
        refine aw_goto 27 dX9_romanSigns_23 rfl ?_
        refine aw_ireturn dX9_romanSigns_27 rfl (Nat.le_refl _) (Nat.le_refl _) ?_
        exact ⟨am_ri (by first | (rw [if_pos (by omega)]; done) | (rw [if_neg (by omega), if_pos (by omega)]; done) | (rw [if_neg (by omega), if_neg (by omega)]; done)), rfl, rfl⟩
    · refine aw_iconst dX9_romanSigns_11 (by decide) (by decide) ?_
      refine aw_goto 27 dX9_romanSigns_12 rfl ?_
      refine aw_ireturn dX9_romanSigns_27 rfl (Nat.le_refl _) (Nat.le_refl _) ?_
      exact ⟨am_ri (by first | (rw [if_pos (by omega)]; done) | (rw [if_neg (by omega), if_pos (by omega)]; done) | (rw [if_neg (by omega), if_neg (by omega)]; done)), rfl, rfl⟩
theorem c_X9_signs {k p : Int} (h0 : 0 ≤ p) (h1 : p ≤ 99) : SemE M_X9_signs [vI k, vI p] t h (some (vI (sgn k p))) t h := by
  have a := rs_bd (f := p / 10) (by omega) (by omega)
  have b := rs_bd (f := p % 10) (by omega) (by omega)
  unfold sgn
  refine sem_intro (by decide) rfl (Nat.le_of_ble_eq_true rfl) rfl ?_
  refine aw_iload_n dX9_signs_0 rfl ?_
  refine aw_bipush dX9_signs_1 (by decide) (by decide) ?_
  refine aw_icmp_le 10 dX9_signs_3 rfl (fun c3 => ?_) (fun c3 => ?_)
  · refine aw_iconst dX9_signs_10 (by decide) (by decide) ?_
    refine aw_istore_n (ls' := [_, _, _]) dX9_signs_11 (by decide) rfl ?_
    refine aw_iload_n dX9_signs_12 rfl ?_
    refine aw_iconst dX9_signs_13 (by decide) (by decide) ?_
    refine aw_icmp_ne 35 dX9_signs_14 rfl (fun c14 => ?_) (fun c14 => ?_)
    · refine aw_iload_n dX9_signs_35 rfl ?_
      refine aw_iconst dX9_signs_36 (by decide) (by decide) ?_
      refine aw_icmp_ne 46 dX9_signs_37 rfl (fun c37 => ?_) (fun c37 => ?_)
      · refine aw_iload_n dX9_signs_46 rfl ?_
        refine aw_ireturn dX9_signs_47 rfl (Nat.le_refl _) (Nat.le_refl _) ?_
        exact ⟨am_ri (by first | (rw [if_pos (by omega)]; done) | (rw [if_neg (by omega), if_pos (by omega), if_pos (by omega)]; done) | (rw [if_neg (by omega), if_pos (by omega), if_neg (by omega)]; done) | (rw [if_neg (by omega), if_neg (by omega), if_pos (by omega)]; done) | (rw [if_neg (by omega), if_neg (by omega), if_neg (by omega)]; done)), rfl, rfl⟩
      · refine aw_iload_n dX9_signs_40 rfl ?_
        refine aw_iconst dX9_signs_41 (by decide) (by decide) ?_
        refine aw_iadd dX9_signs_42 (by omega) (by omega) ?_
        refine aw_goto 47 dX9_signs_43 rfl ?_
        refine aw_ireturn dX9_signs_47 rfl (Nat.le_refl _) (Nat.le_refl _) ?_
        exact ⟨am_ri (by first | (rw [if_pos (by omega)]; done) | (rw [if_neg (by omega), if_pos (by omega), if_pos (by omega)]; done) | (rw [if_neg (by omega), if_pos (by omega), if_neg (by omega)]; done) | (rw [if_neg (by omega), if_neg (by omega), if_pos (by omega)]; done) | (rw [if_neg (by omega), if_neg (by omega), if_neg (by omega)]; done)), rfl, rfl⟩
    · refine aw_iload_n dX9_signs_17 rfl ?_
      refine aw_bipush dX9_signs_18 (by decide) (by decide) ?_
      refine aw_idiv dX9_signs_20 (by omega) (by omega) ?_
      refine aw_s1i dX9_signs_21 sl_RX9_152 (Nat.le_of_ble_eq_true rfl) (Nat.le_of_ble_eq_true rfl) (Nat.le_of_ble_eq_true rfl) (Nat.le_refl _) (Nat.le_refl _) (c_X9_romanSigns (by omega) (by omega)) ?_
      refine aw_iload_n dX9_signs_24 rfl ?_
      refine aw_bipush dX9_signs_25 (by decide) (by decide) ?_
      refine aw_irem dX9_signs_27 (by omega) (by omega) ?_
      refine aw_s1i dX9_signs_28 sl_RX9_152 (Nat.le_of_ble_eq_true rfl) (Nat.le_of_ble_eq_true rfl) (Nat.le_of_ble_eq_true rfl) (Nat.le_refl _) (Nat.le_refl _) (c_X9_romanSigns (by omega) (by omega)) ?_
      refine aw_iadd dX9_signs_31 (by omega) (by omega) ?_
      refine aw_goto 47 dX9_signs_32 rfl ?_
      refine aw_ireturn dX9_signs_47 rfl (Nat.le_refl _) (Nat.le_refl _) ?_
      exact ⟨am_ri (by first | (rw [if_pos (by omega)]; done) | (rw [if_neg (by omega), if_pos (by omega), if_pos (by omega)]; done) | (rw [if_neg (by omega), if_pos (by omega), if_neg (by omega)]; done) | (rw [if_neg (by omega), if_neg (by omega), if_pos (by omega)]; done) | (rw [if_neg (by omega), if_neg (by omega), if_neg (by omega)]; done)), rfl, rfl⟩
  · refine aw_iconst dX9_signs_6 (by decide) (by decide) ?_
    refine aw_goto 11 dX9_signs_7 rfl ?_
    refine aw_istore_n (ls' := [_, _, _]) dX9_signs_11 (by decide) rfl ?_
    refine aw_iload_n dX9_signs_12 rfl ?_
    refine aw_iconst dX9_signs_13 (by decide) (by decide) ?_
    refine aw_icmp_ne 35 dX9_signs_14 rfl (fun c14 => ?_) (fun c14 => ?_)
    · refine aw_iload_n dX9_signs_35 rfl ?_
      refine aw_iconst dX9_signs_36 (by decide) (by decide) ?_
      refine aw_icmp_ne 46 dX9_signs_37 rfl (fun c37 => ?_) (fun c37 => ?_)
      · refine aw_iload_n dX9_signs_46 rfl ?_
        refine aw_ireturn dX9_signs_47 rfl (Nat.le_refl _) (Nat.le_refl _) ?_
        exact ⟨am_ri (by first | (rw [if_pos (by omega)]; done) | (rw [if_neg (by omega), if_pos (by omega), if_pos (by omega)]; done) | (rw [if_neg (by omega), if_pos (by omega), if_neg (by omega)]; done) | (rw [if_neg (by omega), if_neg (by omega), if_pos (by omega)]; done) | (rw [if_neg (by omega), if_neg (by omega), if_neg (by omega)]; done)), rfl, rfl⟩
      · refine aw_iload_n dX9_signs_40 rfl ?_
        refine aw_iconst dX9_signs_41 (by decide) (by decide) ?_
        refine aw_iadd dX9_signs_42 (by omega) (by omega) ?_
        refine aw_goto 47 dX9_signs_43 rfl ?_
        refine aw_ireturn dX9_signs_47 rfl (Nat.le_refl _) (Nat.le_refl _) ?_
        exact ⟨am_ri (by first | (rw [if_pos (by omega)]; done) | (rw [if_neg (by omega), if_pos (by omega), if_pos (by omega)]; done) | (rw [if_neg (by omega), if_pos (by omega), if_neg (by omega)]; done) | (rw [if_neg (by omega), if_neg (by omega), if_pos (by omega)]; done) | (rw [if_neg (by omega), if_neg (by omega), if_neg (by omega)]; done)), rfl, rfl⟩
    · refine aw_iload_n dX9_signs_17 rfl ?_
      refine aw_bipush dX9_signs_18 (by decide) (by decide) ?_
      refine aw_idiv dX9_signs_20 (by omega) (by omega) ?_
      refine aw_s1i dX9_signs_21 sl_RX9_152 (Nat.le_of_ble_eq_true rfl) (Nat.le_of_ble_eq_true rfl) (Nat.le_of_ble_eq_true rfl) (Nat.le_refl _) (Nat.le_refl _) (c_X9_romanSigns (by omega) (by omega)) ?_
      refine aw_iload_n dX9_signs_24 rfl ?_
      refine aw_bipush dX9_signs_25 (by decide) (by decide) ?_
      refine aw_irem dX9_signs_27 (by omega) (by omega) ?_
      refine aw_s1i dX9_signs_28 sl_RX9_152 (Nat.le_of_ble_eq_true rfl) (Nat.le_of_ble_eq_true rfl) (Nat.le_of_ble_eq_true rfl) (Nat.le_refl _) (Nat.le_refl _) (c_X9_romanSigns (by omega) (by omega)) ?_
      refine aw_iadd dX9_signs_31 (by omega) (by omega) ?_
      refine aw_goto 47 dX9_signs_32 rfl ?_
      refine aw_ireturn dX9_signs_47 rfl (Nat.le_refl _) (Nat.le_refl _) ?_
      exact ⟨am_ri (by first | (rw [if_pos (by omega)]; done) | (rw [if_neg (by omega), if_pos (by omega), if_pos (by omega)]; done) | (rw [if_neg (by omega), if_pos (by omega), if_neg (by omega)]; done) | (rw [if_neg (by omega), if_neg (by omega), if_pos (by omega)]; done) | (rw [if_neg (by omega), if_neg (by omega), if_neg (by omega)]; done)), rfl, rfl⟩
end MOD
