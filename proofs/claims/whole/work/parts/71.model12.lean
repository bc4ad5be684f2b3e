section MOC
variable {e q n L : Nat} {h : Mem} {V : VW} {a : Nat}
theorem c_X9_found {x : Int} (h0 : 0 ≤ x) (h1 : x ≤ 9) : SemE M_X9_found [vR 373, vI x] (TT e q n L) h (some (vI (-1000010 - x))) (TT e q n L) (am_up h 373 4 x) := by
  refine sem_intro (by decide) rfl (Nat.le_of_ble_eq_true rfl) rfl ?_
  refine aw_aload_n dX9_found_0 rfl ?_
  refine aw_iload_n dX9_found_1 rfl ?_
  refine aw_putI dX9_found_2 fp_RX9_57 (by first | rfl | assumption) ?_
  refine aw_ldc (n := -1000010) dX9_found_5 kc_RX9_61 (by decide) ?_
  refine aw_iload_n dX9_found_7 rfl ?_
  refine aw_isub dX9_found_8 (by omega) (by omega) ?_
  refine aw_ireturn dX9_found_9 rfl (Nat.le_refl _) (Nat.le_refl _) ?_
  exact ⟨rfl, rfl, rfl⟩
theorem c_X9_well {x : Int} : SemE M_X9_well [vR 373, vI x] (TT e q n L) h (some (vI x)) (TT e q n L) (am_up h 373 4 0) := by
  refine sem_intro (by decide) rfl (Nat.le_of_ble_eq_true rfl) rfl ?_
  refine aw_aload_n dX9_well_0 rfl ?_
  refine aw_iconst dX9_well_1 (by decide) (by decide) ?_
  refine aw_putI dX9_well_2 fp_RX9_57 (by first | rfl | assumption) ?_
  refine aw_iload_n dX9_well_5 rfl ?_
  refine aw_ireturn dX9_well_6 rfl (Nat.le_refl _) (Nat.le_refl _) ?_
  exact ⟨rfl, rfl, rfl⟩
theorem c_X9_isMissing {r : Int} (h0 : 0 ≤ r) (h1 : r < 8) : SemE M_X9_isMissing [vR 373, vI r] (TT e q n L) h (some (vI (if h 374 r = -1000000 then 1 else 0))) (TT e q n L) h := by
  refine sem_intro (by decide) rfl (Nat.le_of_ble_eq_true rfl) rfl ?_
  refine aw_aload_n dX9_isMissing_0 rfl ?_
  refine aw_getR1 dX9_isMissing_1 fx_RX9_7 (by first | rfl | assumption) (by first | rfl | assumption) ?_
  refine aw_iload_n dX9_isMissing_4 rfl ?_
  refine aw_iaload dX9_isMissing_5 (by first | rfl | assumption) (by omega) (by omega) ?_
  refine aw_ldc (n := -1000000) dX9_isMissing_6 kc_RX9_56 (by decide) ?_
  refine aw_icmp_ne 15 dX9_isMissing_8 rfl (fun c8 => ?_) (fun c8 => ?_)
  · refine aw_iconst dX9_isMissing_15 (by decide) (by decide) ?_
    refine aw_zreturn dX9_isMissing_16 rfl (Nat.le_refl _) (Nat.le_refl _) (by first | decide | omega) (by first | decide | omega) ?_
    exact ⟨am_ri (by first | (rw [if_pos (by omega)]; done) | (rw [if_neg (by omega)]; done)), rfl, rfl⟩
  · refine aw_iconst dX9_isMissing_11 (by decide) (by decide) ?_
    refine aw_goto 16 dX9_isMissing_12 rfl ?_
    refine aw_zreturn dX9_isMissing_16 rfl (Nat.le_refl _) (Nat.le_refl _) (by first | decide | omega) (by first | decide | omega) ?_
    exact ⟨am_ri (by first | (rw [if_pos (by omega)]; done) | (rw [if_neg (by omega)]; done)), rfl, rfl⟩
theorem c_X9_isPart {r i k : Int} (h0 : 0 ≤ r) (h1 : r < 8) (s0 : 0 ≤ h 375 r) (s1 : h 375 r ≤ 40) : SemE M_X9_isPart [vR 373, vI r, vI i, vI k] (TT e q n L) h (some (vI (if 0 ≤ i ∧ 0 ≤ k ∧ i ≤ h 375 r ∧ k ≤ h 375 r - i then 1 else 0))) (TT e q n L) h := by
  refine sem_intro (by decide) rfl (Nat.le_of_ble_eq_true rfl) rfl ?_
  refine aw_iload_n dX9_isPart_0 rfl ?_
  refine aw_if_lt 34 dX9_isPart_1 rfl (fun c1 => ?_) (fun c1 => ?_)
  · refine aw_iconst dX9_isPart_34 (by decide) (by decide) ?_
    refine aw_zreturn dX9_isPart_35 rfl (Nat.le_refl _) (Nat.le_refl _) (by first | decide | omega) (by first | decide | omega) ?_
    exact ⟨am_ri (by first | (rw [if_pos (by omega)]; done) | (rw [if_neg (by omega)]; done)), rfl, rfl⟩
  · refine aw_iload_n dX9_isPart_4 rfl ?_
    refine aw_if_lt 34 dX9_isPart_5 rfl (fun c5 => ?_) (fun c5 => ?_)
    · refine aw_iconst dX9_isPart_34 (by decide) (by decide) ?_
      refine aw_zreturn dX9_isPart_35 rfl (Nat.le_refl _) (Nat.le_refl _) (by first | decide | omega) (by first | decide | omega) ?_
      exact ⟨am_ri (by first | (rw [if_pos (by omega)]; done) | (rw [if_neg (by omega)]; done)), rfl, rfl⟩
    · refine aw_iload_n dX9_isPart_8 rfl ?_
      refine aw_aload_n dX9_isPart_9 rfl ?_
      refine aw_getR1 dX9_isPart_10 fx_RX9_13 (by first | rfl | assumption) (by first | rfl | assumption) ?_
      refine aw_iload_n dX9_isPart_13 rfl ?_
      refine aw_iaload dX9_isPart_14 (by first | rfl | assumption) (by omega) (by omega) ?_
      refine aw_icmp_gt 34 dX9_isPart_15 rfl (fun c15 => ?_) (fun c15 => ?_)
      · refine aw_iconst dX9_isPart_34 (by decide) (by decide) ?_
        refine aw_zreturn dX9_isPart_35 rfl (Nat.le_refl _) (Nat.le_refl _) (by first | decide | omega) (by first | decide | omega) ?_
        exact ⟨am_ri (by first | (rw [if_pos (by omega)]; done) | (rw [if_neg (by omega)]; done)), rfl, rfl⟩
      · refine aw_iload_n dX9_isPart_18 rfl ?_
        refine aw_aload_n dX9_isPart_19 rfl ?_
        refine aw_getR1 dX9_isPart_20 fx_RX9_13 (by first | rfl | assumption) (by first | rfl | assumption) ?_
        refine aw_iload_n dX9_isPart_23 rfl ?_
        refine aw_iaload dX9_isPart_24 (by first | rfl | assumption) (by omega) (by omega) ?_
        refine aw_iload_n dX9_isPart_25 rfl ?_
        refine aw_isub dX9_isPart_26 (by omega) (by omega) ?_
        refine aw_icmp_gt 34 dX9_isPart_27 rfl (fun c27 => ?_) (fun c27 => ?_)
        · refine aw_iconst dX9_isPart_34 (by decide) (by decide) ?_
          refine aw_zreturn dX9_isPart_35 rfl (Nat.le_refl _) (Nat.le_refl _) (by first | decide | omega) (by first | decide | omega) ?_
          exact ⟨am_ri (by first | (rw [if_pos (by omega)]; done) | (rw [if_neg (by omega)]; done)), rfl, rfl⟩
        · refine aw_iconst dX9_isPart_30 (by decide) (by decide) ?_
          refine aw_goto 35 dX9_isPart_31 rfl ?_
          refine aw_zreturn dX9_isPart_35 rfl (Nat.le_refl _) (Nat.le_refl _) (by first | decide | omega) (by first | decide | omega) ?_
          exact ⟨am_ri (by first | (rw [if_pos (by omega)]; done) | (rw [if_neg (by omega)]; done)), rfl, rfl⟩
theorem c_X9_isSheet : SemE M_X9_isSheet [vR 373] (TT e q n L) h (some (vI (if 0 < h 379 0 then 1 else 0))) (TT e q n L) h := by
  refine sem_intro (by decide) rfl (Nat.le_of_ble_eq_true rfl) rfl ?_
  refine aw_aload_n dX9_isSheet_0 rfl ?_
  refine aw_getR1 dX9_isSheet_1 fx_RX9_25 (by first | rfl | assumption) (by first | rfl | assumption) ?_
  refine aw_iconst dX9_isSheet_4 (by decide) (by decide) ?_
  refine aw_iaload dX9_isSheet_5 (by first | rfl | assumption) (by omega) (by omega) ?_
  refine aw_if_le 13 dX9_isSheet_6 rfl (fun c6 => ?_) (fun c6 => ?_)
  · refine aw_iconst dX9_isSheet_13 (by decide) (by decide) ?_
    refine aw_zreturn dX9_isSheet_14 rfl (Nat.le_refl _) (Nat.le_refl _) (by first | decide | omega) (by first | decide | omega) ?_
    exact ⟨am_ri (by first | (rw [if_pos (by omega)]; done) | (rw [if_neg (by omega)]; done)), rfl, rfl⟩
  · refine aw_iconst dX9_isSheet_9 (by decide) (by decide) ?_
    refine aw_goto 14 dX9_isSheet_10 rfl ?_
    refine aw_zreturn dX9_isSheet_14 rfl (Nat.le_refl _) (Nat.le_refl _) (by first | decide | omega) (by first | decide | omega) ?_
    exact ⟨am_ri (by first | (rw [if_pos (by omega)]; done) | (rw [if_neg (by omega)]; done)), rfl, rfl⟩
theorem c_X9_isItem {i : Int} (s0 : 0 ≤ h 379 3) (s1 : h 379 3 ≤ 12) : SemE M_X9_isItem [vR 373, vI i] (TT e q n L) h (some (vI (if 0 ≤ i ∧ i ≤ h 379 3 - 1 then 1 else 0))) (TT e q n L) h := by
  refine sem_intro (by decide) rfl (Nat.le_of_ble_eq_true rfl) rfl ?_
  refine aw_iload_n dX9_isItem_0 rfl ?_
  refine aw_iconst dX9_isItem_1 (by decide) (by decide) ?_
  refine aw_aload_n dX9_isItem_2 rfl ?_
  refine aw_getR1 dX9_isItem_3 fx_RX9_25 (by first | rfl | assumption) (by first | rfl | assumption) ?_
  refine aw_iconst dX9_isItem_6 (by decide) (by decide) ?_
  refine aw_iaload dX9_isItem_7 (by first | rfl | assumption) (by omega) (by omega) ?_
  refine aw_iconst dX9_isItem_8 (by decide) (by decide) ?_
  refine aw_isub dX9_isItem_9 (by omega) (by omega) ?_
  refine aw_s3i dX9_isItem_10 sl_RX9_62 (Nat.le_of_ble_eq_true rfl) (Nat.le_of_ble_eq_true rfl) (Nat.le_of_ble_eq_true rfl) (Nat.le_refl _) (Nat.le_refl _) (c_X9_in) ?_
  refine aw_zreturn dX9_isItem_13 rfl (Nat.le_refl _) (Nat.le_refl _) (by split <;> omega) (by split <;> omega) ?_
  exact ⟨rfl, rfl, rfl⟩
theorem c_X9_last {t : Tp} (sa : t.2.1 a = (20, 53)) (ev : mV h a 0 = V) (v1 : 1 ≤ V 0 0) (v2 : V 0 0 ≤ 12) : SemE M_X9_last [vR a] t h (some (vI (lastG V))) t h := by
  have ea := mA_c ev
  have eg := mA3 (k := V 0 0 - 1) ev (by omega) (by omega)
  refine sem_intro (by decide) rfl (Nat.le_of_ble_eq_true rfl) rfl ?_
  refine aw_aload_n dX9_last_0 rfl ?_
  refine aw_iconst dX9_last_1 (by decide) (by decide) ?_
  refine aw_iconst dX9_last_2 (by decide) (by decide) ?_
  refine aw_aload_n dX9_last_3 rfl ?_
  refine aw_iconst dX9_last_4 (by decide) (by decide) ?_
  refine aw_iaload dX9_last_5 (by first | rfl | assumption) (by omega) (by omega) ?_
  rw [ea]
  refine aw_iconst dX9_last_6 (by decide) (by decide) ?_
  refine aw_isub dX9_last_7 (by omega) (by omega) ?_
  refine aw_imul dX9_last_8 (by omega) (by omega) ?_
  refine aw_iadd dX9_last_9 (by omega) (by omega) ?_
  refine aw_iconst dX9_last_10 (by decide) (by decide) ?_
  refine aw_iadd dX9_last_11 (by omega) (by omega) ?_
  refine aw_iaload dX9_last_12 (by first | rfl | assumption) (by omega) (by omega) ?_
  refine aw_ireturn dX9_last_13 rfl (Nat.le_refl _) (Nat.le_refl _) ?_
  refine ⟨am_ri ?_, rfl, rfl⟩
  rw [eg]
  rfl
end MOC
