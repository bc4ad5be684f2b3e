def low (l v : Int) : Int := if l = 0 then v.bmod 256 else if l = 1 then v.bmod 65536 else v
/-- how many rows are there -/
def cntR (l : Int → Int) : Nat → Int
  | 0 => 0
  | n + 1 => if l n = -1 then cntR l n else cntR l n + 1
section ROWS
variable {e q n L : Nat} {h : Mem}
theorem c_X5_isNumber {t : Tp} {r : Int} : SemE M_X5_isNumber [vI r] t h (some (vI (if 0 ≤ r ∧ r < 8 then 1 else 0))) t h := by
  refine sem_intro (by decide) rfl (Nat.le_of_ble_eq_true rfl) rfl ?_
  refine aw_iload_n dX5_isNumber_0 rfl ?_
  refine aw_if_lt 14 dX5_isNumber_1 rfl (fun c1 => ?_) (fun c1 => ?_)
  · refine aw_iconst dX5_isNumber_14 (by decide) (by decide) ?_
    refine aw_zreturn dX5_isNumber_15 rfl (Nat.le_refl _) (Nat.le_refl _) (by first | decide | omega) (by first | decide | omega) ?_
    exact ⟨am_ri (by split <;> omega), rfl, rfl⟩
  · refine aw_iload_n dX5_isNumber_4 rfl ?_
    refine aw_bipush dX5_isNumber_5 (by decide) (by decide) ?_
    refine aw_icmp_ge 14 dX5_isNumber_7 rfl (fun c7 => ?_) (fun c7 => ?_)
    · refine aw_iconst dX5_isNumber_14 (by decide) (by decide) ?_
      refine aw_zreturn dX5_isNumber_15 rfl (Nat.le_refl _) (Nat.le_refl _) (by first | decide | omega) (by first | decide | omega) ?_
      exact ⟨am_ri (by split <;> omega), rfl, rfl⟩
    · refine aw_iconst dX5_isNumber_10 (by decide) (by decide) ?_
      refine aw_goto 15 dX5_isNumber_11 rfl ?_
      refine aw_zreturn dX5_isNumber_15 rfl (Nat.le_refl _) (Nat.le_refl _) (by first | decide | omega) (by first | decide | omega) ?_
      exact ⟨am_ri (by split <;> omega), rfl, rfl⟩
theorem c_X5_isLane {t : Tp} {r : Int} : SemE M_X5_isLane [vI r] t h (some (vI (if 0 ≤ r ∧ r ≤ 2 then 1 else 0))) t h := by
  refine sem_intro (by decide) rfl (Nat.le_of_ble_eq_true rfl) rfl ?_
  refine aw_iload_n dX5_isLane_0 rfl ?_
  refine aw_if_lt 13 dX5_isLane_1 rfl (fun c1 => ?_) (fun c1 => ?_)
  · refine aw_iconst dX5_isLane_13 (by decide) (by decide) ?_
    refine aw_zreturn dX5_isLane_14 rfl (Nat.le_refl _) (Nat.le_refl _) (by first | decide | omega) (by first | decide | omega) ?_
    exact ⟨am_ri (by split <;> omega), rfl, rfl⟩
  · refine aw_iload_n dX5_isLane_4 rfl ?_
    refine aw_iconst dX5_isLane_5 (by decide) (by decide) ?_
    refine aw_icmp_gt 13 dX5_isLane_6 rfl (fun c6 => ?_) (fun c6 => ?_)
    · refine aw_iconst dX5_isLane_13 (by decide) (by decide) ?_
      refine aw_zreturn dX5_isLane_14 rfl (Nat.le_refl _) (Nat.le_refl _) (by first | decide | omega) (by first | decide | omega) ?_
      exact ⟨am_ri (by split <;> omega), rfl, rfl⟩
    · refine aw_iconst dX5_isLane_9 (by decide) (by decide) ?_
      refine aw_goto 14 dX5_isLane_10 rfl ?_
      refine aw_zreturn dX5_isLane_14 rfl (Nat.le_refl _) (Nat.le_refl _) (by first | decide | omega) (by first | decide | omega) ?_
      exact ⟨am_ri (by split <;> omega), rfl, rfl⟩
theorem c_X5_isMissing {r : Int} (h0 : 0 ≤ r) (h1 : r < 8) : SemE M_X5_isMissing [vR 1, vI r] (TT e q n L) h (some (vI (if h 2 r = -1 then 1 else 0))) (TT e q n L) h := by
  refine sem_intro (by decide) rfl (Nat.le_of_ble_eq_true rfl) rfl ?_
  refine aw_aload_n dX5_isMissing_0 rfl ?_
  refine aw_getR1 dX5_isMissing_1 fx_RX5_9 (by first | rfl | assumption) (by first | rfl | assumption) ?_
  refine aw_iload_n dX5_isMissing_4 rfl ?_
  refine aw_iaload dX5_isMissing_5 (by first | rfl | assumption) (by omega) (by omega) ?_
  refine aw_iconst dX5_isMissing_6 (by decide) (by decide) ?_
  refine aw_icmp_ne 14 dX5_isMissing_7 rfl (fun c7 => ?_) (fun c7 => ?_)
  · refine aw_iconst dX5_isMissing_14 (by decide) (by decide) ?_
    refine aw_zreturn dX5_isMissing_15 rfl (Nat.le_refl _) (Nat.le_refl _) (by first | decide | omega) (by first | decide | omega) ?_
    exact ⟨am_ri (by split <;> omega), rfl, rfl⟩
  · refine aw_iconst dX5_isMissing_10 (by decide) (by decide) ?_
    refine aw_goto 15 dX5_isMissing_11 rfl ?_
    refine aw_zreturn dX5_isMissing_15 rfl (Nat.le_refl _) (Nat.le_refl _) (by first | decide | omega) (by first | decide | omega) ?_
    exact ⟨am_ri (by split <;> omega), rfl, rfl⟩
theorem c_X5_areOfOneLane {r s : Int} (h0 : 0 ≤ r) (h1 : r < 8) (h2 : 0 ≤ s) (h3 : s < 8) : SemE M_X5_areOfOneLane [vR 1, vI r, vI s] (TT e q n L) h (some (vI (if h 2 r = h 2 s then 1 else 0))) (TT e q n L) h := by
  refine sem_intro (by decide) rfl (Nat.le_of_ble_eq_true rfl) rfl ?_
  refine aw_aload_n dX5_areOfOneLane_0 rfl ?_
  refine aw_getR1 dX5_areOfOneLane_1 fx_RX5_9 (by first | rfl | assumption) (by first | rfl | assumption) ?_
  refine aw_iload_n dX5_areOfOneLane_4 rfl ?_
  refine aw_iaload dX5_areOfOneLane_5 (by first | rfl | assumption) (by omega) (by omega) ?_
  refine aw_aload_n dX5_areOfOneLane_6 rfl ?_
  refine aw_getR1 dX5_areOfOneLane_7 fx_RX5_9 (by first | rfl | assumption) (by first | rfl | assumption) ?_
  refine aw_iload_n dX5_areOfOneLane_10 rfl ?_
  refine aw_iaload dX5_areOfOneLane_11 (by first | rfl | assumption) (by omega) (by omega) ?_
  refine aw_icmp_ne 19 dX5_areOfOneLane_12 rfl (fun c12 => ?_) (fun c12 => ?_)
  · refine aw_iconst dX5_areOfOneLane_19 (by decide) (by decide) ?_
    refine aw_zreturn dX5_areOfOneLane_20 rfl (Nat.le_refl _) (Nat.le_refl _) (by first | decide | omega) (by first | decide | omega) ?_
    exact ⟨am_ri (by split <;> omega), rfl, rfl⟩
  · refine aw_iconst dX5_areOfOneLane_15 (by decide) (by decide) ?_
    refine aw_goto 20 dX5_areOfOneLane_16 rfl ?_
    refine aw_zreturn dX5_areOfOneLane_20 rfl (Nat.le_refl _) (Nat.le_refl _) (by first | decide | omega) (by first | decide | omega) ?_
    exact ⟨am_ri (by split <;> omega), rfl, rfl⟩
theorem c_X5_hasPlaces {r i k : Int} (h0 : 0 ≤ r) (h1 : r < 8) (h2 : 0 ≤ h 3 r) (h3 : h 3 r ≤ 40) : SemE M_X5_hasPlaces [vR 1, vI r, vI i, vI k] (TT e q n L) h (some (vI (if 0 ≤ i ∧ 0 ≤ k ∧ i ≤ h 3 r ∧ k ≤ h 3 r - i then 1 else 0))) (TT e q n L) h := by
  refine sem_intro (by decide) rfl (Nat.le_of_ble_eq_true rfl) rfl ?_
  refine aw_iload_n dX5_hasPlaces_0 rfl ?_
  refine aw_if_lt 34 dX5_hasPlaces_1 rfl (fun c1 => ?_) (fun c1 => ?_)
  · refine aw_iconst dX5_hasPlaces_34 (by decide) (by decide) ?_
    refine aw_zreturn dX5_hasPlaces_35 rfl (Nat.le_refl _) (Nat.le_refl _) (by first | decide | omega) (by first | decide | omega) ?_
    exact ⟨am_ri (by split <;> omega), rfl, rfl⟩
  · refine aw_iload_n dX5_hasPlaces_4 rfl ?_
    refine aw_if_lt 34 dX5_hasPlaces_5 rfl (fun c5 => ?_) (fun c5 => ?_)
    · refine aw_iconst dX5_hasPlaces_34 (by decide) (by decide) ?_
      refine aw_zreturn dX5_hasPlaces_35 rfl (Nat.le_refl _) (Nat.le_refl _) (by first | decide | omega) (by first | decide | omega) ?_
      exact ⟨am_ri (by split <;> omega), rfl, rfl⟩
    · refine aw_iload_n dX5_hasPlaces_8 rfl ?_
      refine aw_aload_n dX5_hasPlaces_9 rfl ?_
      refine aw_getR1 dX5_hasPlaces_10 fx_RX5_13 (by first | rfl | assumption) (by first | rfl | assumption) ?_
      refine aw_iload_n dX5_hasPlaces_13 rfl ?_
      refine aw_iaload dX5_hasPlaces_14 (by first | rfl | assumption) (by omega) (by omega) ?_
      refine aw_icmp_gt 34 dX5_hasPlaces_15 rfl (fun c15 => ?_) (fun c15 => ?_)
      · refine aw_iconst dX5_hasPlaces_34 (by decide) (by decide) ?_
        refine aw_zreturn dX5_hasPlaces_35 rfl (Nat.le_refl _) (Nat.le_refl _) (by first | decide | omega) (by first | decide | omega) ?_
        exact ⟨am_ri (by split <;> omega), rfl, rfl⟩
      · refine aw_iload_n dX5_hasPlaces_18 rfl ?_
        refine aw_aload_n dX5_hasPlaces_19 rfl ?_
        refine aw_getR1 dX5_hasPlaces_20 fx_RX5_13 (by first | rfl | assumption) (by first | rfl | assumption) ?_
        refine aw_iload_n dX5_hasPlaces_23 rfl ?_
        refine aw_iaload dX5_hasPlaces_24 (by first | rfl | assumption) (by omega) (by omega) ?_
        refine aw_iload_n dX5_hasPlaces_25 rfl ?_
        refine aw_isub dX5_hasPlaces_26 (by omega) (by omega) ?_
        refine aw_icmp_gt 34 dX5_hasPlaces_27 rfl (fun c27 => ?_) (fun c27 => ?_)
        · refine aw_iconst dX5_hasPlaces_34 (by decide) (by decide) ?_
          refine aw_zreturn dX5_hasPlaces_35 rfl (Nat.le_refl _) (Nat.le_refl _) (by first | decide | omega) (by first | decide | omega) ?_
          exact ⟨am_ri (by split <;> omega), rfl, rfl⟩
        · refine aw_iconst dX5_hasPlaces_30 (by decide) (by decide) ?_
          refine aw_goto 35 dX5_hasPlaces_31 rfl ?_
          refine aw_zreturn dX5_hasPlaces_35 rfl (Nat.le_refl _) (Nat.le_refl _) (by first | decide | omega) (by first | decide | omega) ?_
          exact ⟨am_ri (by split <;> omega), rfl, rfl⟩
theorem c_X5_make {r l k : Int} (h0 : 0 ≤ r) (h1 : r < 8) : SemE M_X5_make [vR 1, vI r, vI l, vI k] (TT e q n L) h none (TT e q n L) (am_fill (am_up (am_up h 2 r l) 3 r k) (5 + r.toNat) 40 0) := by
  obtain ⟨b, hb⟩ : ∃ b, b = 5 + r.toNat := ⟨_, rfl⟩
  have g1 : (TT e q n L).2.2 4 r = some b := by rw [hb]; exact rf_row h0 h1
  have g2 : (TT e q n L).2.1 b = (20, 40) := by rw [hb]; exact sh_row (by omega)
  rw [← hb]
  refine sem_intro (by decide) rfl (Nat.le_of_ble_eq_true rfl) rfl ?_
  refine aw_aload_n dX5_make_0 rfl ?_
  refine aw_getR1 dX5_make_1 fx_RX5_9 (by first | rfl | assumption) (by first | rfl | assumption) ?_
  refine aw_iload_n dX5_make_4 rfl ?_
  refine aw_iload_n dX5_make_5 rfl ?_
  refine aw_iastore dX5_make_6 (by first | rfl | assumption) (by omega) (by omega) (by omega) ?_
  refine aw_aload_n dX5_make_7 rfl ?_
  refine aw_getR1 dX5_make_8 fx_RX5_13 (by first | rfl | assumption) (by first | rfl | assumption) ?_
  refine aw_iload_n dX5_make_11 rfl ?_
  refine aw_iload_n dX5_make_12 rfl ?_
  refine aw_iastore dX5_make_13 (by first | rfl | assumption) (by omega) (by omega) (by omega) ?_
  refine aw_aload_n dX5_make_14 rfl ?_
  refine aw_getR1 dX5_make_15 fx_RX5_18 (by first | rfl | assumption) (by first | rfl | assumption) ?_
  refine aw_iload_n dX5_make_18 rfl ?_
  refine aw_aaload1 dX5_make_19 (by first | rfl | assumption) (by decide) (by omega) (by omega) (by first | rfl | assumption) ?_
  refine aw_iconst dX5_make_20 (by decide) (by decide) ?_
  refine aw_s2v dX5_make_21 sl_RX5_21 (Nat.le_of_ble_eq_true rfl) (Nat.le_of_ble_eq_true rfl) (Nat.le_of_ble_eq_true rfl) (Nat.le_refl _) (Nat.le_refl _) (c_fill g2 (by omega) (by decide)) ?_
  refine aw_return dX5_make_24 rfl (Nat.le_refl _) (Nat.le_refl _) ?_
  exact ⟨rfl, rfl, rfl⟩
theorem c_X5_put {r i v : Int} (h0 : 0 ≤ r) (h1 : r < 8) (h2 : 0 ≤ i) (h3 : i < 40) : SemE M_X5_put [vR 1, vI r, vI i, vI v] (TT e q n L) h (some (vI (low (h 2 r) v))) (TT e q n L) (am_up h (5 + r.toNat) i (low (h 2 r) v)) := by
  obtain ⟨b, hb⟩ : ∃ b, b = 5 + r.toNat := ⟨_, rfl⟩
  have g1 : (TT e q n L).2.2 4 r = some b := by rw [hb]; exact rf_row h0 h1
  have g2 : (TT e q n L).2.1 b = (20, 40) := by rw [hb]; exact sh_row (by omega)
  rw [← hb]
  unfold low
  refine sem_intro (by decide) rfl (Nat.le_of_ble_eq_true rfl) rfl ?_
  refine aw_aload_n dX5_put_0 rfl ?_
  refine aw_getR1 dX5_put_1 fx_RX5_18 (by first | rfl | assumption) (by first | rfl | assumption) ?_
  refine aw_iload_n dX5_put_4 rfl ?_
  refine aw_aaload1 dX5_put_5 (by first | rfl | assumption) (by decide) (by omega) (by omega) (by first | rfl | assumption) ?_
  refine aw_iload_n dX5_put_6 rfl ?_
  refine aw_aload_n dX5_put_7 rfl ?_
  refine aw_getR1 dX5_put_8 fx_RX5_9 (by first | rfl | assumption) (by first | rfl | assumption) ?_
  refine aw_iload_n dX5_put_11 rfl ?_
  refine aw_iaload dX5_put_12 (by first | rfl | assumption) (by omega) (by omega) ?_
  refine aw_if_ne 21 dX5_put_13 rfl (fun c13 => ?_) (fun c13 => ?_)
  · refine aw_aload_n dX5_put_21 rfl ?_
    refine aw_getR1 dX5_put_22 fx_RX5_9 (by first | rfl | assumption) (by first | rfl | assumption) ?_
    refine aw_iload_n dX5_put_25 rfl ?_
    refine aw_iaload dX5_put_26 (by first | rfl | assumption) (by omega) (by omega) ?_
    refine aw_iconst dX5_put_27 (by decide) (by decide) ?_
    refine aw_icmp_ne 36 dX5_put_28 rfl (fun c28 => ?_) (fun c28 => ?_)
    · refine aw_iload_n dX5_put_36 rfl ?_
      refine aw_iastore dX5_put_37 (by first | rfl | assumption) (by omega) (by omega) (by omega) ?_
      refine aw_aload_n dX5_put_38 rfl ?_
      refine aw_getR1 dX5_put_39 fx_RX5_18 (by first | rfl | assumption) (by first | rfl | assumption) ?_
      refine aw_iload_n dX5_put_42 rfl ?_
      refine aw_aaload1 dX5_put_43 (by first | rfl | assumption) (by decide) (by omega) (by omega) (by first | rfl | assumption) ?_
      refine aw_iload_n dX5_put_44 rfl ?_
      refine aw_iaload dX5_put_45 (by first | rfl | assumption) (by omega) (by omega) ?_
      refine aw_ireturn dX5_put_46 rfl (Nat.le_refl _) (Nat.le_refl _) ?_
      first | (rw [if_pos (by omega)]; exact ⟨am_ri (by simp [am_up]), rfl, rfl⟩) | (rw [if_neg (by omega), if_pos (by omega)]; exact ⟨am_ri (by simp [am_up]), rfl, rfl⟩) | (rw [if_neg (by omega), if_neg (by omega)]; exact ⟨am_ri (by simp [am_up]), rfl, rfl⟩)
    · refine aw_iload_n dX5_put_31 rfl ?_
      refine aw_i2s dX5_put_32 ?_
      refine aw_goto 37 dX5_put_33 rfl ?_
      refine aw_iastore dX5_put_37 (by first | rfl | assumption) (by omega) (by omega) (by omega) ?_
      refine aw_aload_n dX5_put_38 rfl ?_
      refine aw_getR1 dX5_put_39 fx_RX5_18 (by first | rfl | assumption) (by first | rfl | assumption) ?_
      refine aw_iload_n dX5_put_42 rfl ?_
      refine aw_aaload1 dX5_put_43 (by first | rfl | assumption) (by decide) (by omega) (by omega) (by first | rfl | assumption) ?_
      refine aw_iload_n dX5_put_44 rfl ?_
      refine aw_iaload dX5_put_45 (by first | rfl | assumption) (by omega) (by omega) ?_
      refine aw_ireturn dX5_put_46 rfl (Nat.le_refl _) (Nat.le_refl _) ?_
      first | (rw [if_pos (by omega)]; exact ⟨am_ri (by simp [am_up]), rfl, rfl⟩) | (rw [if_neg (by omega), if_pos (by omega)]; exact ⟨am_ri (by simp [am_up]), rfl, rfl⟩) | (rw [if_neg (by omega), if_neg (by omega)]; exact ⟨am_ri (by simp [am_up]), rfl, rfl⟩)
  · refine aw_iload_n dX5_put_16 rfl ?_
    refine aw_i2b dX5_put_17 ?_
    refine aw_goto 37 dX5_put_18 rfl ?_
    refine aw_iastore dX5_put_37 (by first | rfl | assumption) (by omega) (by omega) (by omega) ?_
    refine aw_aload_n dX5_put_38 rfl ?_
    refine aw_getR1 dX5_put_39 fx_RX5_18 (by first | rfl | assumption) (by first | rfl | assumption) ?_
    refine aw_iload_n dX5_put_42 rfl ?_
    refine aw_aaload1 dX5_put_43 (by first | rfl | assumption) (by decide) (by omega) (by omega) (by first | rfl | assumption) ?_
    refine aw_iload_n dX5_put_44 rfl ?_
    refine aw_iaload dX5_put_45 (by first | rfl | assumption) (by omega) (by omega) ?_
    refine aw_ireturn dX5_put_46 rfl (Nat.le_refl _) (Nat.le_refl _) ?_
    first | (rw [if_pos (by omega)]; exact ⟨am_ri (by simp [am_up]), rfl, rfl⟩) | (rw [if_neg (by omega), if_pos (by omega)]; exact ⟨am_ri (by simp [am_up]), rfl, rfl⟩) | (rw [if_neg (by omega), if_neg (by omega)]; exact ⟨am_ri (by simp [am_up]), rfl, rfl⟩)
theorem c_X5_carry {r i s j k : Int} (h0 : 0 ≤ r) (h1 : r < 8) (h2 : 0 ≤ s) (h3 : s < 8) (i0 : 0 ≤ i) (j0 : 0 ≤ j) (k0 : 0 ≤ k) (hi : i + k ≤ 40) (hj : j + k ≤ 40) : SemE M_X5_carry [vR 1, vI r, vI i, vI s, vI j, vI k] (TT e q n L) h none (TT e q n L) (am_cpy h (5 + r.toNat) i (5 + s.toNat) j k) := by
  obtain ⟨b, hb⟩ : ∃ b, b = 5 + r.toNat := ⟨_, rfl⟩
  have g1 : (TT e q n L).2.2 4 r = some b := by rw [hb]; exact rf_row h0 h1
  have g2 : (TT e q n L).2.1 b = (20, 40) := by rw [hb]; exact sh_row (by omega)
  obtain ⟨c, hc⟩ : ∃ c, c = 5 + s.toNat := ⟨_, rfl⟩
  have g3 : (TT e q n L).2.2 4 s = some c := by rw [hc]; exact rf_row h2 h3
  have g4 : (TT e q n L).2.1 c = (20, 40) := by rw [hc]; exact sh_row (by omega)
  rw [← hb, ← hc]
  refine sem_intro (by decide) rfl (Nat.le_of_ble_eq_true rfl) rfl ?_
  refine aw_aload_n dX5_carry_0 rfl ?_
  refine aw_getR1 dX5_carry_1 fx_RX5_18 (by first | rfl | assumption) (by first | rfl | assumption) ?_
  refine aw_iload_n dX5_carry_4 rfl ?_
  refine aw_aaload1 dX5_carry_5 (by first | rfl | assumption) (by decide) (by omega) (by omega) g1 ?_
  refine aw_iload_n dX5_carry_6 rfl ?_
  refine aw_aload_n dX5_carry_7 rfl ?_
  refine aw_getR1 dX5_carry_8 fx_RX5_18 (by first | rfl | assumption) (by first | rfl | assumption) ?_
  refine aw_iload_n dX5_carry_11 rfl ?_
  refine aw_aaload1 dX5_carry_12 (by first | rfl | assumption) (by decide) (by omega) (by omega) g3 ?_
  refine aw_iload dX5_carry_13 rfl ?_
  refine aw_iload dX5_carry_15 rfl ?_
  refine aw_copy dX5_carry_17 ac_RX5_27 (by first | rfl | assumption) (by first | rfl | assumption) (by omega) (by omega) (by omega) (by omega) (by omega) (by omega) (by omega) (by decide) (Nat.le_of_ble_eq_true rfl) ?_
  refine aw_return dX5_carry_20 rfl (Nat.le_refl _) (Nat.le_refl _) ?_
  exact ⟨rfl, rfl, rfl⟩
theorem c_X5_lose {r : Int} (h0 : 0 ≤ r) (h1 : r < 8) : SemE M_X5_lose [vR 1, vI r] (TT e q n L) h (some (vI (h 3 r))) (TT e q n L) (am_up h 2 r (-1)) := by
  refine sem_intro (by decide) rfl (Nat.le_of_ble_eq_true rfl) rfl ?_
  refine aw_aload_n dX5_lose_0 rfl ?_
  refine aw_getR1 dX5_lose_1 fx_RX5_9 (by first | rfl | assumption) (by first | rfl | assumption) ?_
  refine aw_iload_n dX5_lose_4 rfl ?_
  refine aw_iconst dX5_lose_5 (by decide) (by decide) ?_
  refine aw_iastore dX5_lose_6 (by first | rfl | assumption) (by omega) (by omega) (by omega) ?_
  refine aw_aload_n dX5_lose_7 rfl ?_
  refine aw_getR1 dX5_lose_8 fx_RX5_13 (by first | rfl | assumption) (by first | rfl | assumption) ?_
  refine aw_iload_n dX5_lose_11 rfl ?_
  refine aw_iaload dX5_lose_12 (by first | rfl | assumption) (by omega) (by omega) ?_
  refine aw_ireturn dX5_lose_13 rfl (Nat.le_refl _) (Nat.le_refl _) ?_
  exact ⟨am_ri (by rw [am_up_ne (by decide)]), rfl, rfl⟩
theorem l_present {Q : Option AV → Tp → Mem → Prop} (hk : Q (some (vI (cntR (h 2) 8))) (TT e q n L) h) : ∀ (m : Nat) (i : Nat), i + m = 8 → AW M_X5_present 0 0 Q 4 [some (vR 1), some (vI (cntR (h 2) i)), some (vI i)] [] (TT e q n L) h 0 0 := by
  have hb : ∀ j : Nat, 0 ≤ cntR (h 2) j ∧ cntR (h 2) j ≤ j := by
    intro j
    induction j with
    | zero => simp [cntR]
    | succ j ih => unfold cntR; split <;> omega
  intro m
  induction m with
  | zero =>
    intro i hi
    have e0 : i = 8 := by omega
    subst e0
    refine aw_iload_n dX5_present_4 rfl ?_
    refine aw_bipush dX5_present_5 (by decide) (by decide) ?_
    refine aw_icmp_ge 27 dX5_present_7 rfl (fun c7 => ?_) (fun c7 => ?_)
    · refine aw_iload_n dX5_present_27 rfl ?_
      refine aw_ireturn dX5_present_28 rfl (Nat.le_refl _) (Nat.le_refl _) ?_
      exact hk
    · exfalso; omega
  | succ m ih =>
    intro i hi
    have z := ih (i + 1) (by omega)
    have hbi := hb i
    have ez : cntR (h 2) (i + 1) = if h 2 i = -1 then cntR (h 2) i else cntR (h 2) i + 1 := rfl
    rw [ez] at z
    refine aw_iload_n dX5_present_4 rfl ?_
    refine aw_bipush dX5_present_5 (by decide) (by decide) ?_
    refine aw_icmp_ge 27 dX5_present_7 rfl (fun c7 => ?_) (fun c7 => ?_)
    · exfalso; omega
    · refine aw_aload_n dX5_present_10 rfl ?_
      refine aw_iload_n dX5_present_11 rfl ?_
      refine aw_v1i dX5_present_12 vl_RX5_33 (by first | rfl | assumption) (Nat.le_of_ble_eq_true rfl) (Nat.le_of_ble_eq_true rfl) (Nat.le_of_ble_eq_true rfl) (Nat.le_refl _) (Nat.le_refl _) (c_X5_isMissing (by omega) (by omega)) ?_
      refine aw_if_ne 21 dX5_present_15 rfl (fun c15 => ?_) (fun c15 => ?_)
      · refine aw_iinc (ls' := [_, _, _]) dX5_present_21 (by decide) rfl (by omega) (by omega) rfl ?_
        refine aw_goto 4 dX5_present_24 rfl ?_
        first | (rw [if_pos (by split at c15 <;> omega)] at z; exact z) | (rw [if_neg (by split at c15 <;> omega)] at z; exact z)
      · refine aw_iinc (ls' := [_, _, _]) dX5_present_18 (by decide) rfl (by omega) (by omega) rfl ?_
        refine aw_iinc (ls' := [_, _, _]) dX5_present_21 (by decide) rfl (by omega) (by omega) rfl ?_
        refine aw_goto 4 dX5_present_24 rfl ?_
        first | (rw [if_pos (by split at c15 <;> omega)] at z; exact z) | (rw [if_neg (by split at c15 <;> omega)] at z; exact z)
theorem c_X5_present : SemE M_X5_present [vR 1] (TT e q n L) h (some (vI (cntR (h 2) 8))) (TT e q n L) h := by
  refine sem_intro (by decide) rfl (Nat.le_of_ble_eq_true rfl) rfl ?_
  refine aw_iconst dX5_present_0 (by decide) (by decide) ?_
  refine aw_istore_n (ls' := [_, _, _]) dX5_present_1 (by decide) rfl ?_
  refine aw_iconst dX5_present_2 (by decide) (by decide) ?_
  refine aw_istore_n (ls' := [_, _, _]) dX5_present_3 (by decide) rfl ?_
  exact l_present ⟨rfl, rfl, rfl⟩ 8 0 (by omega)
theorem c_X8_found {w : Int} (h0 : 0 ≤ w) (h1 : w ≤ 9) : SemE M_X8_found [vR 0, vI w] (TT e q n L) h (some (vI (-1000010 - w))) (TT e q n L) (am_up h 0 12 w) := by
  refine sem_intro (by decide) rfl (Nat.le_of_ble_eq_true rfl) rfl ?_
  refine aw_aload_n dX8_found_0 rfl ?_
  refine aw_iload_n dX8_found_1 rfl ?_
  refine aw_putI dX8_found_2 fp_RX8_335 (by first | rfl | assumption) ?_
  refine aw_ldc_w (n := -1000010) dX8_found_5 kc_RX8_338 (by decide) ?_
  refine aw_iload_n dX8_found_8 rfl ?_
  refine aw_isub dX8_found_9 (by omega) (by omega) ?_
  refine aw_ireturn dX8_found_10 rfl (Nat.le_refl _) (Nat.le_refl _) ?_
  exact ⟨rfl, rfl, rfl⟩
theorem c_X8_sound {w : Int} : SemE M_X8_sound [vR 0, vI w] (TT e q n L) h (some (vI w)) (TT e q n L) (am_up h 0 12 0) := by
  refine sem_intro (by decide) rfl (Nat.le_of_ble_eq_true rfl) rfl ?_
  refine aw_aload_n dX8_sound_0 rfl ?_
  refine aw_iconst dX8_sound_1 (by decide) (by decide) ?_
  refine aw_putI dX8_sound_2 fp_RX8_335 (by first | rfl | assumption) ?_
  refine aw_iload_n dX8_sound_5 rfl ?_
  refine aw_ireturn dX8_sound_6 rfl (Nat.le_refl _) (Nat.le_refl _) ?_
  exact ⟨rfl, rfl, rfl⟩
theorem c_X8_isWithoutSheet : SemE M_X8_isWithoutSheet [vR 0] (TT e q n L) h (some (vI (if h 16 0 = 0 then 1 else 0))) (TT e q n L) h := by
  refine sem_intro (by decide) rfl (Nat.le_of_ble_eq_true rfl) rfl ?_
  refine aw_aload_n dX8_isWithoutSheet_0 rfl ?_
  refine aw_getR1 dX8_isWithoutSheet_1 fx_RX8_30 (by first | rfl | assumption) (by first | rfl | assumption) ?_
  refine aw_getI dX8_isWithoutSheet_4 fx_RX8_139 (by first | rfl | assumption) ?_
  refine aw_if_ne 14 dX8_isWithoutSheet_7 rfl (fun c7 => ?_) (fun c7 => ?_)
  · refine aw_iconst dX8_isWithoutSheet_14 (by decide) (by decide) ?_
    refine aw_zreturn dX8_isWithoutSheet_15 rfl (Nat.le_refl _) (Nat.le_refl _) (by first | decide | omega) (by first | decide | omega) ?_
    exact ⟨am_ri (by split <;> omega), rfl, rfl⟩
  · refine aw_iconst dX8_isWithoutSheet_10 (by decide) (by decide) ?_
    refine aw_goto 15 dX8_isWithoutSheet_11 rfl ?_
    refine aw_zreturn dX8_isWithoutSheet_15 rfl (Nat.le_refl _) (Nat.le_refl _) (by first | decide | omega) (by first | decide | omega) ?_
    exact ⟨am_ri (by split <;> omega), rfl, rfl⟩
end ROWS
