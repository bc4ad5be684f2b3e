section MOD2
variable {e q n L : Nat} {h : Mem} {σ : ST}
theorem MS.row {h' : Mem} {la si : Int → Int} {va : Int → Int → Int} {fn : Int} (hM : MS h σ) (h1 : ∀ i, 0 ≤ i → i < 8 → h' 374 i = (if la i = -1 then -1000000 else la i) ∧ h' 375 i = si i ∧ ∀ j, 0 ≤ j → j < 40 → h' 376 (40 * i + j) = va i j) (h2 : h' 373 4 = fn)
    (hf : ∀ c, c = 378 ∨ c = 379 ∨ c = 382 ∨ c = 383 ∨ c = 384 ∨ c = 388 → h' c = h c) (hg : ∀ k : Int, k = 6 ∨ k = 7 ∨ k = 17 ∨ k = 27 → h' 373 k = h 373 k) : MS h' (la, si, va, fn, σ.2.2.2.2) := by
  obtain ⟨m1, m2, m3, m4, m5, m6, m7, m8⟩ := hM
  have eV : ∀ (c : Nat) (o : Int), h' c = h c → mV h' c o = mV h c o := fun c o e => by unfold mV mS; rw [e]
  refine ⟨h1, h2, ?_, ?_, ?_, ?_, fun k k0 k1 => ?_, ?_⟩
  · rw [hg 6 (by omega), hf 378 (by omega)]; exact m3
  · rw [hg 7 (by omega)]; exact m4
  · rw [eV 379 0 (hf 379 (by omega))]; exact m5
  · rw [hg 17 (by omega)]
    refine ⟨m6.1, m6.2.1, fun j hj => ?_⟩
    rw [eV 382 _ (hf 382 (by omega))]; exact m6.2.2 j hj
  · rw [hf 384 (by omega), eV 383 _ (hf 383 (by omega))]; exact m7 k k0 k1
  · rw [hg 27 (by omega), hf 388 (by omega)]; exact m8
theorem MS.fnd {x : Int} (hM : MS h σ) : MS (am_up h 373 4 x) (wFnd σ x) := hM.row (fun i i0 i1 => by rw [am_up_ne (by decide), am_up_ne (by decide), am_up_ne (by decide)]; exact hM.1 i i0 i1) (by simp [am_up]) (fun c hc => am_up_ne (by omega)) (fun k hk => by unfold am_up; rw [if_neg (by omega)])
theorem c_X9_drop {r : Int} (hM : MS h σ) (hW : WFst σ) : Sem M_X9_drop [vR 373, vI r] (TT e q n L) h 0 0 (PM (sp_drop σ r) h (TT e q n L)) := by
  unfold sp_drop
  have w := hW.1 r
  have m := hM.1 r
  refine sem_intro (by decide) rfl (Nat.le_of_ble_eq_true rfl) rfl ?_
  refine aw_iload_n dX9_drop_0 rfl ?_
  refine aw_s1i dX9_drop_1 sl_RX9_66 (Nat.le_of_ble_eq_true rfl) (Nat.le_of_ble_eq_true rfl) (Nat.le_of_ble_eq_true rfl) (Nat.le_refl _) (Nat.le_refl _) (c_X9_isRow) ?_
  refine aw_ifB_ne 10 dX9_drop_4 rfl (fun c4 => ?_) (fun c4 => ?_)
  · have w2 := w (by omega) (by omega)
    obtain ⟨m1, m2, m3⟩ := m (by omega) (by omega)
    rw [if_neg (by omega)]
    refine aw_aload_n dX9_drop_10 rfl ?_
    refine aw_iload_n dX9_drop_11 rfl ?_
    refine aw_v1i dX9_drop_12 vl_RX9_78 (by first | rfl | assumption) (Nat.le_of_ble_eq_true rfl) (Nat.le_of_ble_eq_true rfl) (Nat.le_of_ble_eq_true rfl) (Nat.le_refl _) (Nat.le_refl _) (c_X9_isMissing (by omega) (by omega)) ?_
    refine aw_ifB_eq 24 dX9_drop_15 rfl (fun c15 => ?_) (fun c15 => ?_)
    · refine aw_aload_n dX9_drop_24 rfl ?_
      refine aw_getR1 dX9_drop_25 fx_RX9_7 (by first | rfl | assumption) (by first | rfl | assumption) ?_
      refine aw_iload_n dX9_drop_28 rfl ?_
      refine aw_ldc (n := -1000000) dX9_drop_29 kc_RX9_56 (by decide) ?_
      refine aw_iastore dX9_drop_31 (by first | rfl | assumption) (by omega) (by omega) (by omega) ?_
      refine aw_aload_n dX9_drop_32 rfl ?_
      refine aw_aload_n dX9_drop_33 rfl ?_
      refine aw_getR1 dX9_drop_34 fx_RX9_13 (by first | rfl | assumption) (by first | rfl | assumption) ?_
      refine aw_iload_n dX9_drop_37 rfl ?_
      refine aw_iaload dX9_drop_38 (by first | rfl | assumption) (by omega) (by omega) ?_
      refine aw_v1i dX9_drop_39 vl_RX9_75 (by first | rfl | assumption) (Nat.le_of_ble_eq_true rfl) (Nat.le_of_ble_eq_true rfl) (Nat.le_of_ble_eq_true rfl) (Nat.le_refl _) (Nat.le_refl _) (c_X9_well) ?_
      refine aw_ireturn dX9_drop_42 rfl (Nat.le_refl _) (Nat.le_refl _) ?_
      have e1 : s_lan σ r ≠ -1 := fun y => by
        rw [if_pos y] at m1; omega
      rw [if_neg e1]
      refine ⟨am_ri (by rw [am_up_ne (by decide)]; exact m2), rfl, hM.row (fun i i0 i1 => ?_) (by simp [am_up]) (fun c hc => by rw [am_up_ne (by omega), am_up_ne (by omega)]) (fun k hk => by unfold am_up; rw [if_neg (by omega), if_neg (by omega)]), fun c hc => by rw [am_up_ne (by omega), am_up_ne (by omega)]⟩
      obtain ⟨y1, y2, y3⟩ := hM.1 i i0 i1
      refine ⟨?_, by rw [am_up_ne (by decide), am_up_ne (by decide)]; exact y2, fun j j0 j1 => by rw [am_up_ne (by decide), am_up_ne (by decide)]; exact y3 j j0 j1⟩
      rw [am_up_ne (by decide)]
      unfold am_up up1
      by_cases y : i = r
      · subst y
        rw [if_pos ⟨rfl, rfl⟩, if_pos rfl, if_pos rfl]
      · rw [if_neg (by omega), if_neg y]
        exact y1
    · refine aw_aload_n dX9_drop_18 rfl ?_
      refine aw_iconst dX9_drop_19 (by decide) (by decide) ?_
      refine aw_v1i dX9_drop_20 vl_RX9_71 (by first | rfl | assumption) (Nat.le_of_ble_eq_true rfl) (Nat.le_of_ble_eq_true rfl) (Nat.le_of_ble_eq_true rfl) (Nat.le_refl _) (Nat.le_refl _) (c_X9_found (by decide) (by decide)) ?_
      refine aw_ireturn dX9_drop_23 rfl (Nat.le_refl _) (Nat.le_refl _) ?_
      have e1 : s_lan σ r = -1 := by
        by_cases y : s_lan σ r = -1
        · exact y
        · rw [if_neg y] at m1; omega
      rw [if_pos e1]
      exact ⟨rfl, rfl, hM.fnd, fun c hc => am_up_ne (by omega)⟩
  · refine aw_ldc (n := -1000001) dX9_drop_7 kc_RX9_70 (by decide) ?_
    refine aw_ireturn dX9_drop_9 rfl (Nat.le_refl _) (Nat.le_refl _) ?_
    rw [if_pos (by omega)]
    exact ⟨rfl, rfl, hM, fun _ _ => rfl⟩
theorem c_X9_status (hM : MS h σ) : Sem M_X9_status [vR 373] (TT e q n L) h 0 0 (PM (s_fnd σ, σ) h (TT e q n L)) := by
  refine sem_intro (by decide) rfl (Nat.le_of_ble_eq_true rfl) rfl ?_
  refine aw_aload_n dX9_status_0 rfl ?_
  refine aw_getI dX9_status_1 fx_RX9_57 (by first | rfl | assumption) ?_
  refine aw_ireturn dX9_status_4 rfl (Nat.le_refl _) (Nat.le_refl _) ?_
  exact ⟨am_ri hM.2.1, rfl, hM, fun _ _ => rfl⟩
theorem c_X9_fault (hM : MS h σ) : Sem M_X9_fault [vR 373] (TT e q n L) h 0 0 (PM (s_flt σ, σ) h (TT e q n L)) := by
  refine sem_intro (by decide) rfl (Nat.le_of_ble_eq_true rfl) rfl ?_
  refine aw_aload_n dX9_fault_0 rfl ?_
  refine aw_getI dX9_fault_1 fx_RX9_114 (by first | rfl | assumption) ?_
  refine aw_ireturn dX9_fault_4 rfl (Nat.le_refl _) (Nat.le_refl _) ?_
  exact ⟨am_ri hM.2.2.2.1, rfl, hM, fun _ _ => rfl⟩
end MOD2
