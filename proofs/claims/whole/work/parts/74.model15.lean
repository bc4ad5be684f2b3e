section MOF
variable {e q n L : Nat} {h : Mem} {σ : ST}
theorem c_X9_feed {x : Int} (hM : MS h σ) (hW : WFst σ) : Sem M_X9_feed [vR 373, vI x] (TT e q n L) h 0 0 (PM (sp_feed σ x) h (TT e q n L)) := by
  unfold sp_feed
  obtain ⟨m1, m2, ⟨m3, m3b⟩, m4, m5, m6, m7, m8⟩ := id hM
  have tb := hW.2.1
  have e6 : ∀ y z : Int, am_up h 378 y z 373 6 = (s_tap σ).1 := fun y z => by rw [am_up_ne (by decide)]; exact m3
  refine sem_intro (by decide) rfl (Nat.le_of_ble_eq_true rfl) rfl ?_
  refine aw_iload_n dX9_feed_0 rfl ?_
  refine aw_iconst dX9_feed_1 (by decide) (by decide) ?_
  refine aw_sipush dX9_feed_2 (by decide) (by decide) ?_
  refine aw_s3i dX9_feed_5 sl_RX9_62 (Nat.le_of_ble_eq_true rfl) (Nat.le_of_ble_eq_true rfl) (Nat.le_of_ble_eq_true rfl) (Nat.le_refl _) (Nat.le_refl _) (c_X9_in) ?_
  refine aw_ifB_ne 14 dX9_feed_8 rfl (fun c8 => ?_) (fun c8 => ?_)
  · refine aw_aload_n dX9_feed_14 rfl ?_
    refine aw_getI dX9_feed_15 fx_RX9_88 (by first | rfl | assumption) ?_
    rw [m3]
    refine aw_bipush dX9_feed_18 (by decide) (by decide) ?_
    refine aw_icmp_ne 26 dX9_feed_20 rfl (fun c20 => ?_) (fun c20 => ?_)
    · refine aw_aload_n dX9_feed_26 rfl ?_
      refine aw_getR1 dX9_feed_27 fx_RX9_22 (by first | rfl | assumption) (by first | rfl | assumption) ?_
      refine aw_aload_n dX9_feed_30 rfl ?_
      refine aw_getI dX9_feed_31 fx_RX9_88 (by first | rfl | assumption) ?_
      rw [m3]
      refine aw_iload_n dX9_feed_34 rfl ?_
      refine aw_iastore dX9_feed_35 (by first | rfl | assumption) (by omega) (by omega) (by omega) ?_
      refine aw_aload_n dX9_feed_36 rfl ?_
      refine aw_dup dX9_feed_37 rfl ?_
      refine aw_getI dX9_feed_38 fx_RX9_88 (by first | rfl | assumption) ?_
      rw [e6]
      refine aw_iconst dX9_feed_41 (by decide) (by decide) ?_
      refine aw_iadd dX9_feed_42 (by omega) (by omega) ?_
      refine aw_putI dX9_feed_43 fp_RX9_88 (by first | rfl | assumption) ?_
      refine aw_aload_n dX9_feed_46 rfl ?_
      refine aw_getI dX9_feed_47 fx_RX9_88 (by first | rfl | assumption) ?_
      refine aw_ireturn dX9_feed_50 rfl (Nat.le_refl _) (Nat.le_refl _) ?_
      rw [if_neg (by omega), if_neg (by omega)]
      have eV : ∀ (c : Nat) (o : Int), c ≠ 373 → c ≠ 378 → mV (am_up (am_up h 378 (s_tap σ).1 x) 373 6 ((s_tap σ).1 + 1)) c o = mV h c o := fun c o c1 c2 => by unfold mV mS; rw [am_up_ne c1, am_up_ne c2]
      refine ⟨am_ri (by simp [am_up]), rfl, ⟨fun i i0 i1 => ?_, ?_, ⟨by simp [am_up], fun j j0 j1 => ?_⟩, ?_, ?_, ?_, fun k k0 k1 => ?_, ?_⟩, fun c hc => by rw [am_up_ne (by omega), am_up_ne (by omega)]⟩
      · rw [am_up_ne (by decide), am_up_ne (by decide), am_up_ne (by decide), am_up_ne (by decide), am_up_ne (by decide), am_up_ne (by decide)]; exact m1 i i0 i1
      · simp [am_up]; exact m2
      · rw [am_up_ne (by decide)]
        show am_up h 378 (s_tap σ).1 x 378 j = up1 (s_tap σ).2 (s_tap σ).1 x j
        have j2 : j < (s_tap σ).1 + 1 := j1
        unfold am_up up1
        by_cases y : j = (s_tap σ).1
        · rw [if_pos ⟨rfl, y⟩, if_pos y]
        · rw [if_neg (by omega), if_neg y]; exact m3b j j0 (by omega)
      · simp [am_up]; exact m4
      · rw [eV 379 0 (by decide) (by decide)]; exact m5
      · refine ⟨by simp [am_up]; exact m6.1, m6.2.1, fun j hj => by rw [eV 382 _ (by decide) (by decide)]; exact m6.2.2 j hj⟩
      · rw [eV 383 _ (by decide) (by decide), am_up_ne (by decide), am_up_ne (by decide)]; exact m7 k k0 k1
      · refine ⟨by simp [am_up]; exact m8.1, fun j j0 j1 => by rw [am_up_ne (by decide), am_up_ne (by decide)]; exact m8.2 j j0 j1⟩
    · refine aw_ldc (n := -1000003) dX9_feed_23 kc_RX9_91 (by decide) ?_
      refine aw_ireturn dX9_feed_25 rfl (Nat.le_refl _) (Nat.le_refl _) ?_
      rw [if_neg (by omega), if_pos (by omega)]
      exact ⟨rfl, rfl, hM, fun _ _ => rfl⟩
  · refine aw_ldc (n := -1000001) dX9_feed_11 kc_RX9_70 (by decide) ?_
    refine aw_ireturn dX9_feed_13 rfl (Nat.le_refl _) (Nat.le_refl _) ?_
    rw [if_pos (by omega)]
    exact ⟨rfl, rfl, hM, fun _ _ => rfl⟩
end MOF
