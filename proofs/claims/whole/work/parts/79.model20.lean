/-! one place of the reference's sheet is another -/
theorem setV_0 {V : VW} {j0 : Nat} {i x : Int} (h : ¬ (j0 = 0 ∧ i = 0)) : setV V j0 i x 0 0 = V 0 0 := by unfold setV; rw [if_neg (by omega)]
theorem cut_setV {V : VW} {j0 : Nat} {i x : Int} (hc : cut V = V) (hj : (j0 = 0 ∧ 1 ≤ i ∧ i < 5) ∨ (1 ≤ j0 ∧ j0 ≤ 4 ∧ 0 ≤ i ∧ i < V 0 0)) : cut (setV V j0 i x) = setV V j0 i x := cut_of (fun k hk => by
  unfold setV
  rw [if_neg (by omega)]
  exact cut_z0 hc hk) (fun j k hj2 hk => by
  rw [setV_0 (by omega)] at hk
  unfold setV
  rw [if_neg (by omega)]
  exact cut_zj hc hj2 hk)
theorem setV_at {V : VW} {j0 : Nat} {i x : Int} : setV V j0 i x j0 i = x := if_pos ⟨rfl, rfl⟩
theorem setV_ne {V : VW} {j0 j : Nat} {i k x : Int} (h : ¬ (j = j0 ∧ k = i)) : setV V j0 i x j k = V j k := if_neg h
theorem mV_set {h : Mem} {a j0 : Nat} {V : VW} {i x : Int} (ev : mV h a 0 = V) (hj : 1 ≤ j0 ∧ j0 ≤ 4) (h0 : 0 ≤ i) (h1 : i < V 0 0) {o : Int} (ho : o = 5 + 4 * i + ((j0 : Int) - 1)) : mV (am_up h a o x) a 0 = setV V j0 i x := by
  have hc : cut V = V := by rw [← ev]; exact mV_cut
  have ea : ∀ y : Int, y ≠ o → am_up h a o x a y = h a y := fun y hy => by unfold am_up; rw [if_neg (by omega)]
  have eo : am_up h a o x a o = x := by unfold am_up; rw [if_pos ⟨rfl, rfl⟩]
  have e0 : ∀ k, setV V j0 i x 0 k = V 0 k := fun k => setV_ne (by omega)
  refine mV_is (cut_setV hc (Or.inr ⟨hj.1, hj.2, h0, h1⟩)) ?_ ?_ ?_ ?_ ?_ (fun k k0 k1 => ?_)
  · rw [e0, ea _ (by omega)]; exact mA_c ev
  · rw [e0, ea _ (by omega)]; exact mA_w ev
  · rw [e0, ea _ (by omega)]; exact mA_l ev
  · rw [e0, ea _ (by omega)]; exact mA_f ev
  · rw [e0, ea _ (by omega)]; exact mA_r ev
  · rw [e0] at k1
    have g1 := mA1 ev k0 k1
    have g2 := mA2 ev k0 k1
    have g3 := mA3 ev k0 k1
    have g4 := mA4 ev k0 k1
    have key : ∀ (j : Nat) (p : Int), 1 ≤ j → j ≤ 4 → p = 5 + 4 * k + ((j : Int) - 1) → h a p = V j k → am_up h a o x a p = setV V j0 i x j k := fun j p ja jb hp hv => by
      by_cases z : j = j0 ∧ k = i
      · rw [show p = o by rw [hp, ho, z.1, z.2], eo, z.1, z.2, setV_at]
      · rw [setV_ne z, ea p (by omega)]; exact hv
    exact ⟨key 1 _ (by decide) (by decide) (by omega) g1, key 2 _ (by decide) (by decide) (by omega) g2, key 3 _ (by decide) (by decide) (by omega) g3, key 4 _ (by decide) (by decide) (by omega) g4⟩
theorem mV_setS {h : Mem} {a : Nat} {V : VW} {w x : Int} (ev : mV h a 0 = V) (h0 : 0 ≤ w) (h1 : w ≤ 2) : mV (am_up h a w x) a 0 = setV V 0 (w + 1) x := by
  have hc : cut V = V := by rw [← ev]; exact mV_cut
  have ea : ∀ y : Int, y ≠ w → am_up h a w x a y = h a y := fun y hy => by unfold am_up; rw [if_neg (by omega)]
  have eo : am_up h a w x a w = x := by unfold am_up; rw [if_pos ⟨rfl, rfl⟩]
  refine mV_is (cut_setV hc (Or.inl ⟨rfl, by omega, by omega⟩)) ?_ ?_ ?_ ?_ ?_ (fun k k0 k1 => ?_)
  · rw [setV_ne (by omega), ea _ (by omega)]; exact mA_c ev
  · by_cases z : w = 0
    · subst z; rw [eo]; exact setV_at.symm
    · rw [setV_ne (by omega), ea _ (by omega)]; exact mA_w ev
  · by_cases z : w = 1
    · subst z; rw [eo]; exact setV_at.symm
    · rw [setV_ne (by omega), ea _ (by omega)]; exact mA_l ev
  · by_cases z : w = 2
    · subst z; rw [eo]; exact setV_at.symm
    · rw [setV_ne (by omega), ea _ (by omega)]; exact mA_f ev
  · rw [setV_ne (by omega), ea _ (by omega)]; exact mA_r ev
  · rw [setV_ne (by omega)] at k1
    rw [setV_ne (by omega), setV_ne (by omega), setV_ne (by omega), setV_ne (by omega), ea _ (by omega), ea _ (by omega), ea _ (by omega), ea _ (by omega)]
    exact ⟨mA1 ev k0 k1, mA2 ev k0 k1, mA3 ev k0 k1, mA4 ev k0 k1⟩
theorem wf_sh {V : VW} (h : WFs V) : (V 0 0 = 0 ∧ V 0 1 = 0) ∨ (1 ≤ V 0 0 ∧ V 0 0 ≤ 12 ∧ 4 ≤ V 0 1) := by
  rcases h with h | h
  · rw [h]; exact Or.inl ⟨rfl, rfl⟩
  · exact Or.inr ⟨h.1.1, h.1.2.1, h.1.2.2.1⟩
section MOK
variable {e q n L : Nat} {h : Mem} {σ : ST}
theorem n_notes (hM : MS h σ) (hW : WFst σ) : Sem M_X9_notes [vR 373] (TT e q n L) h 0 0 (QNt (pushP (s_pas σ) (s_liv σ)) h (TT e q n L)) :=
  c_X9_notes (p := s_pas σ) hM.2.2.2.2.1 (wf_cnt hW.2.2.2.1).2 hM.2.2.2.2.2.1.2.1 hM.2.2.2.2.2.1.1 (fun j hj => ⟨hM.2.2.2.2.2.1.2.2 j hj, (wf_cnt (hW.2.2.2.2.1.2 j hj).1).2⟩)
/-- behind notes, then the sheet there is another -/
theorem MS.noted {h1 h2 : Mem} {V : VW} {P : Nat × (Nat → VW)} (hM : MS h σ) (hP : P.1 ≤ 24) (n1 : h1 373 17 = (P.1 : Int) ∧ ∀ j : Nat, j < P.1 → mV h1 382 (53 * (j : Int)) = P.2 j) (n2 : ∀ c, c ≠ 382 → c ≠ 373 → h1 c = h c) (n3 : ∀ k : Int, k ≠ 17 → h1 373 k = h 373 k)
    (g1 : mV h2 379 0 = V) (g2 : ∀ c, c ≠ 379 → c ≠ 385 → h2 c = h1 c) : MS h2 (wLP σ V P) ∧ ∀ c, c < 373 ∨ 388 < c → h2 c = h c :=
  ⟨hM.act hP g1 ⟨by rw [g2 373 (by decide) (by decide)]; exact n1.1, fun j hj => by rw [← n1.2 j hj]; exact mV_fr (g2 382 (by decide) (by decide))⟩ (fun c hc => by rw [g2 c (by omega) (by omega), n2 c (by omega) (by omega)]) (fun k hk => by rw [g2 373 (by decide) (by decide), n3 k (by omega)]), fun c hc => by rw [g2 c (by omega) (by omega), n2 c (by omega) (by omega)]⟩
theorem c_X9_round (hM : MS h σ) (hW : WFst σ) : Sem M_X9_round [vR 373] (TT e q n L) h 0 0 (PM (sp_round σ) h (TT e q n L)) := by
  unfold sp_round
  have ev : mV h 379 0 = s_liv σ := hM.2.2.2.2.1
  have e0 : h 379 0 = s_liv σ 0 1 := mA_w ev
  have e4 : h 379 4 = s_liv σ 0 4 := mA_r ev
  have ws := wf_sh hW.2.2.2.1
  refine sem_intro (by decide) rfl (Nat.le_of_ble_eq_true rfl) rfl ?_
  refine aw_aload_n dX9_round_0 rfl ?_
  refine aw_v0i dX9_round_1 vl_RX9_191 (by first | rfl | assumption) (Nat.le_of_ble_eq_true rfl) (Nat.le_of_ble_eq_true rfl) (Nat.le_of_ble_eq_true rfl) (Nat.le_refl _) (Nat.le_refl _) (c_X9_isSheet) ?_
  refine aw_ifB_ne 10 dX9_round_4 rfl (fun c4 => ?_) (fun c4 => ?_)
  · have hL := wf_liv hW.2.2.2.1 (by omega)
    refine aw_aload_n dX9_round_10 rfl ?_
    refine aw_getR1 dX9_round_11 fx_RX9_25 (by first | rfl | assumption) (by first | rfl | assumption) ?_
    refine aw_iconst dX9_round_14 (by decide) (by decide) ?_
    refine aw_iaload dX9_round_15 (by first | rfl | assumption) (by omega) (by omega) ?_
    rw [e4]
    refine aw_sipush dX9_round_16 (by decide) (by decide) ?_
    refine aw_icmp_ne 25 dX9_round_19 rfl (fun c19 => ?_) (fun c19 => ?_)
    · refine aw_aload_n dX9_round_25 rfl ?_
      refine aw_v0q dX9_round_26 vl_RX9_195 (by first | rfl | assumption) (Nat.le_of_ble_eq_true rfl) (Nat.le_of_ble_eq_true rfl) (Nat.le_of_ble_eq_true rfl) (Nat.le_refl _) (Nat.le_refl _) (n_notes hM hW) ?_
      intro v t' h1 hq
      obtain ⟨rfl, rfl, n1, n2, n3⟩ := hq
      have ev1 : mV h1 379 0 = s_liv σ := by rw [← ev]; exact mV_fr (n2 379 (by decide) (by decide))
      refine aw_aload_n dX9_round_29 rfl ?_
      refine aw_aload_n dX9_round_30 rfl ?_
      refine aw_getR1 dX9_round_31 fx_RX9_25 (by first | rfl | assumption) (by first | rfl | assumption) ?_
      refine aw_v1q dX9_round_34 vl_RX9_182 (by first | rfl | assumption) (Nat.le_of_ble_eq_true rfl) (Nat.le_of_ble_eq_true rfl) (Nat.le_of_ble_eq_true rfl) (Nat.le_refl _) (Nat.le_refl _) (c_X9_rounds (a := 379) rfl (by decide) (by decide) ev1 hL.1 hL.2.1 (by omega)) ?_
      intro v t' h2 hq
      obtain ⟨rfl, rfl, g1, g2⟩ := hq
      refine aw_ireturn dX9_round_37 rfl (Nat.le_refl _) (Nat.le_refl _) ?_
      rw [if_neg (by omega), if_neg (by omega)]
      exact ⟨rfl, rfl, hM.noted (pushP_le hM.2.2.2.2.2.1.2.1) n1 n2 n3 g1 g2⟩
    · refine aw_ldc (n := -1000003) dX9_round_22 kc_RX9_91 (by decide) ?_
      refine aw_ireturn dX9_round_24 rfl (Nat.le_refl _) (Nat.le_refl _) ?_
      rw [if_neg (by omega), if_pos (by omega)]
      exact ⟨rfl, rfl, hM, fun _ _ => rfl⟩
  · refine aw_ldc (n := -1000002) dX9_round_7 kc_RX9_194 (by decide) ?_
    refine aw_ireturn dX9_round_9 rfl (Nat.le_refl _) (Nat.le_refl _) ?_
    rw [if_pos (by omega)]
    exact ⟨rfl, rfl, hM, fun _ _ => rfl⟩
theorem c_X9_settle (hM : MS h σ) (hW : WFst σ) : Sem M_X9_settle [vR 373] (TT e q n L) h 0 0 (PM (sp_settle σ) h (TT e q n L)) := by
  unfold sp_settle
  have ev : mV h 379 0 = s_liv σ := hM.2.2.2.2.1
  have e0 : h 379 0 = s_liv σ 0 1 := mA_w ev
  have ec : h 379 3 = s_liv σ 0 0 := mA_c ev
  have ws := wf_sh hW.2.2.2.1
  refine sem_intro (by decide) rfl (Nat.le_of_ble_eq_true rfl) rfl ?_
  refine aw_aload_n dX9_settle_0 rfl ?_
  refine aw_v0i dX9_settle_1 vl_RX9_191 (by first | rfl | assumption) (Nat.le_of_ble_eq_true rfl) (Nat.le_of_ble_eq_true rfl) (Nat.le_of_ble_eq_true rfl) (Nat.le_refl _) (Nat.le_refl _) (c_X9_isSheet) ?_
  refine aw_ifB_ne 10 dX9_settle_4 rfl (fun c4 => ?_) (fun c4 => ?_)
  · have hL := wf_liv hW.2.2.2.1 (by omega)
    have hok := settles_ok (stop := false) hL.1
    refine aw_aload_n dX9_settle_10 rfl ?_
    refine aw_getR1 dX9_settle_11 fx_RX9_25 (by first | rfl | assumption) (by first | rfl | assumption) ?_
    refine aw_iconst dX9_settle_14 (by decide) (by decide) ?_
    refine aw_aload_n dX9_settle_15 rfl ?_
    refine aw_getR1 dX9_settle_16 fx_RX9_31 (by first | rfl | assumption) (by first | rfl | assumption) ?_
    refine aw_iconst dX9_settle_19 (by decide) (by decide) ?_
    refine aw_s4q dX9_settle_20 sl_RX9_145 (Nat.le_of_ble_eq_true rfl) (Nat.le_of_ble_eq_true rfl) (Nat.le_of_ble_eq_true rfl) (Nat.le_refl _) (Nat.le_refl _) (c_X9_copies (Nx := 53) (Ny := 53) rfl rfl (by decide) (by omega) (by omega) (by omega) (by omega) (by decide) (by decide) (by decide)) ?_
    intro v t' h1 hq
    obtain ⟨rfl, rfl, k1, k2, k3⟩ := hq
    have ev1 : mV h1 381 0 = s_liv σ := by rw [← ev]; exact mV_congr (fun k k0 k4 => k1 k k0 k4) (by rw [show (0 : Int) + 3 = 3 from rfl, ec]; omega)
    refine aw_aload_n dX9_settle_23 rfl ?_
    refine aw_aload_n dX9_settle_24 rfl ?_
    refine aw_getR1 dX9_settle_25 fx_RX9_31 (by first | rfl | assumption) (by first | rfl | assumption) ?_
    refine aw_v1q dX9_settle_28 vl_RX9_198 (by first | rfl | assumption) (Nat.le_of_ble_eq_true rfl) (Nat.le_of_ble_eq_true rfl) (Nat.le_of_ble_eq_true rfl) (Nat.le_refl _) (Nat.le_refl _) (c_X9_settles (a := 381) rfl (Or.inr (Or.inr rfl)) ev1 hL.1 hL.2.1 (by omega)) ?_
    intro v t' h2 hq
    obtain ⟨rfl, rfl, s1, s2, s3, s4, s5⟩ := hq
    have f2 : SM h h2 := (sm_of (fun c _ _ c1 _ _ _ => k3 c c1)).tr (sm_FM (Or.inr rfl) s5)
    have e24 : h2 381 4 = s_liv σ 0 4 + (settles false (s_liv σ)).2.1 := by rw [mA_r s1, addR_4, hok.2.2.2.2.2]
    refine aw_aload_n dX9_settle_31 rfl ?_
    refine aw_getR1 dX9_settle_32 fx_RX9_31 (by first | rfl | assumption) (by first | rfl | assumption) ?_
    refine aw_iconst dX9_settle_35 (by decide) (by decide) ?_
    refine aw_iaload dX9_settle_36 (by first | rfl | assumption) (by omega) (by omega) ?_
    rw [e24]
    refine aw_sipush dX9_settle_37 (by decide) (by decide) ?_
    refine aw_icmp_le 46 dX9_settle_40 rfl (fun c40 => ?_) (fun c40 => ?_)
    · refine aw_aload_n dX9_settle_46 rfl ?_
      refine aw_v0q dX9_settle_47 vl_RX9_195 (by first | rfl | assumption) (Nat.le_of_ble_eq_true rfl) (Nat.le_of_ble_eq_true rfl) (Nat.le_of_ble_eq_true rfl) (Nat.le_refl _) (Nat.le_refl _) (n_notes (f2.ms hM) hW) ?_
      intro v t' h3 hq
      obtain ⟨rfl, rfl, n1, n2, n3⟩ := hq
      refine aw_aload_n dX9_settle_50 rfl ?_
      refine aw_getR1 dX9_settle_51 fx_RX9_31 (by first | rfl | assumption) (by first | rfl | assumption) ?_
      refine aw_iconst dX9_settle_54 (by decide) (by decide) ?_
      refine aw_aload_n dX9_settle_55 rfl ?_
      refine aw_getR1 dX9_settle_56 fx_RX9_25 (by first | rfl | assumption) (by first | rfl | assumption) ?_
      refine aw_iconst dX9_settle_59 (by decide) (by decide) ?_
      refine aw_s4q dX9_settle_60 sl_RX9_145 (Nat.le_of_ble_eq_true rfl) (Nat.le_of_ble_eq_true rfl) (Nat.le_of_ble_eq_true rfl) (Nat.le_refl _) (Nat.le_refl _) (c_X9_copies (Nx := 53) (Ny := 53) rfl rfl (by decide) (by omega) (by omega) (by omega) (by omega) (by decide) (by decide) (by decide)) ?_
      intro v t' h4 hq
      obtain ⟨rfl, rfl, j1, j2, j3⟩ := hq
      have ev4 : mV h4 379 0 = addR (settles false (s_liv σ)).1 (settles false (s_liv σ)).2.1 := by
        rw [← s1, ← mV_fr (n2 381 (by decide) (by decide))]
        refine mV_congr (fun k k0 k4 => j1 k k0 k4) ?_
        rw [n2 381 (by decide) (by decide), show (0 : Int) + 3 = 3 from rfl, mA_c s1, addR_0, hok.2.2.2.2.2]
        omega
      obtain ⟨a1, a2⟩ := (f2.ms hM).noted (pushP_le hM.2.2.2.2.2.1.2.1) n1 n2 n3 ev4 (fun c c1 c2 => j3 c c1)
      have e3 : h4 373 23 = (settles false (s_liv σ)).2.1 := by rw [j3 373 (by decide), n3 23 (by decide)]; exact s2
      refine aw_aload_n dX9_settle_63 rfl ?_
      refine aw_getI dX9_settle_64 fx_RX9_166 (by first | rfl | assumption) ?_
      refine aw_ireturn dX9_settle_67 rfl (Nat.le_refl _) (Nat.le_refl _) ?_
      rw [if_neg (by omega), if_neg (by omega)]
      exact ⟨am_ri e3, rfl, a1, fun c hc => by rw [a2 c hc]; exact f2.1 c (by omega)⟩
    · refine aw_ldc (n := -1000003) dX9_settle_43 kc_RX9_91 (by decide) ?_
      refine aw_ireturn dX9_settle_45 rfl (Nat.le_refl _) (Nat.le_refl _) ?_
      rw [if_neg (by omega), if_pos (by omega)]
      exact pm_sm hM f2
  · refine aw_ldc (n := -1000002) dX9_settle_7 kc_RX9_194 (by decide) ?_
    refine aw_ireturn dX9_settle_9 rfl (Nat.le_refl _) (Nat.le_refl _) ?_
    rw [if_pos (by omega)]
    exact ⟨rfl, rfl, hM, fun _ _ => rfl⟩
theorem c_X9_isNumber {kd k : Int} (s0 : 0 ≤ h 379 3) (s1 : h 379 3 ≤ 12) (k1 : 1 ≤ kd) (k2 : kd ≤ 5) : SemE M_X9_isNumber [vR 373, vI kd, vI k] (TT e q n L) h (some (vI (if mbn (h 379 3) kd k then 1 else 0))) (TT e q n L) h := by
  unfold mbn
  refine sem_intro (by decide) rfl (Nat.le_of_ble_eq_true rfl) rfl ?_
  refine aw_iload_n dX9_isNumber_0 rfl ?_
  refine aw_iconst dX9_isNumber_1 (by decide) (by decide) ?_
  refine aw_icmp_eq 33 dX9_isNumber_2 rfl (fun c2 => ?_) (fun c2 => ?_)
  · refine aw_iconst dX9_isNumber_33 (by decide) (by decide) ?_
    refine aw_goto 38 dX9_isNumber_34 rfl ?_
    refine aw_zreturn dX9_isNumber_38 rfl (Nat.le_refl _) (Nat.le_refl _) (by first | decide | omega) (by first | decide | omega) ?_
    exact ⟨am_ri (by first | (rw [if_pos (by omega)]; done) | (rw [if_neg (by omega)]; done)), rfl, rfl⟩
  · refine aw_iload_n dX9_isNumber_5 rfl ?_
    refine aw_iconst dX9_isNumber_6 (by decide) (by decide) ?_
    refine aw_icmp_ne 20 dX9_isNumber_7 rfl (fun c7 => ?_) (fun c7 => ?_)
    · refine aw_iload_n dX9_isNumber_20 rfl ?_
      refine aw_iconst dX9_isNumber_21 (by decide) (by decide) ?_
      refine aw_icmp_gt 37 dX9_isNumber_22 rfl (fun c22 => ?_) (fun c22 => ?_)
      · refine aw_iconst dX9_isNumber_37 (by decide) (by decide) ?_
        refine aw_zreturn dX9_isNumber_38 rfl (Nat.le_refl _) (Nat.le_refl _) (by first | decide | omega) (by first | decide | omega) ?_
        exact ⟨am_ri (by first | (rw [if_pos (by omega)]; done) | (rw [if_neg (by omega)]; done)), rfl, rfl⟩
      · refine aw_aload_n dX9_isNumber_25 rfl ?_
        refine aw_iload_n dX9_isNumber_26 rfl ?_
        refine aw_v1i dX9_isNumber_27 vl_RX9_202 (by first | rfl | assumption) (Nat.le_of_ble_eq_true rfl) (Nat.le_of_ble_eq_true rfl) (Nat.le_of_ble_eq_true rfl) (Nat.le_refl _) (Nat.le_refl _) (c_X9_isItem s0 s1) ?_
        refine aw_ifB_eq 37 dX9_isNumber_30 rfl (fun c30 => ?_) (fun c30 => ?_)
        · refine aw_iconst dX9_isNumber_37 (by decide) (by decide) ?_
          refine aw_zreturn dX9_isNumber_38 rfl (Nat.le_refl _) (Nat.le_refl _) (by first | decide | omega) (by first | decide | omega) ?_
          exact ⟨am_ri (by first | (rw [if_pos (by omega)]; done) | (rw [if_neg (by omega)]; done)), rfl, rfl⟩
        · refine aw_iconst dX9_isNumber_33 (by decide) (by decide) ?_
          refine aw_goto 38 dX9_isNumber_34 rfl ?_
          refine aw_zreturn dX9_isNumber_38 rfl (Nat.le_refl _) (Nat.le_refl _) (by first | decide | omega) (by first | decide | omega) ?_
          exact ⟨am_ri (by first | (rw [if_pos (by omega)]; done) | (rw [if_neg (by omega)]; done)), rfl, rfl⟩
    · refine aw_iload_n dX9_isNumber_10 rfl ?_
      refine aw_iconst dX9_isNumber_11 (by decide) (by decide) ?_
      refine aw_bipush dX9_isNumber_12 (by decide) (by decide) ?_
      refine aw_s3i dX9_isNumber_14 sl_RX9_62 (Nat.le_of_ble_eq_true rfl) (Nat.le_of_ble_eq_true rfl) (Nat.le_of_ble_eq_true rfl) (Nat.le_refl _) (Nat.le_refl _) (c_X9_in) ?_
      refine aw_ifB_ne 33 dX9_isNumber_17 rfl (fun c17 => ?_) (fun c17 => ?_)
      · refine aw_iconst dX9_isNumber_33 (by decide) (by decide) ?_
        refine aw_goto 38 dX9_isNumber_34 rfl ?_
        refine aw_zreturn dX9_isNumber_38 rfl (Nat.le_refl _) (Nat.le_refl _) (by first | decide | omega) (by first | decide | omega) ?_
        exact ⟨am_ri (by first | (rw [if_pos (by omega)]; done) | (rw [if_neg (by omega)]; done)), rfl, rfl⟩
      · refine aw_iload_n dX9_isNumber_20 rfl ?_
        refine aw_iconst dX9_isNumber_21 (by decide) (by decide) ?_
        refine aw_icmp_gt 37 dX9_isNumber_22 rfl (fun c22 => ?_) (fun c22 => ?_)
        · refine aw_iconst dX9_isNumber_37 (by decide) (by decide) ?_
          refine aw_zreturn dX9_isNumber_38 rfl (Nat.le_refl _) (Nat.le_refl _) (by first | decide | omega) (by first | decide | omega) ?_
          exact ⟨am_ri (by first | (rw [if_pos (by omega)]; done) | (rw [if_neg (by omega)]; done)), rfl, rfl⟩
        · refine aw_aload_n dX9_isNumber_25 rfl ?_
          refine aw_iload_n dX9_isNumber_26 rfl ?_
          refine aw_v1i dX9_isNumber_27 vl_RX9_202 (by first | rfl | assumption) (Nat.le_of_ble_eq_true rfl) (Nat.le_of_ble_eq_true rfl) (Nat.le_of_ble_eq_true rfl) (Nat.le_refl _) (Nat.le_refl _) (c_X9_isItem s0 s1) ?_
          refine aw_ifB_eq 37 dX9_isNumber_30 rfl (fun c30 => ?_) (fun c30 => ?_)
          · refine aw_iconst dX9_isNumber_37 (by decide) (by decide) ?_
            refine aw_zreturn dX9_isNumber_38 rfl (Nat.le_refl _) (Nat.le_refl _) (by first | decide | omega) (by first | decide | omega) ?_
            exact ⟨am_ri (by first | (rw [if_pos (by omega)]; done) | (rw [if_neg (by omega)]; done)), rfl, rfl⟩
          · refine aw_iconst dX9_isNumber_33 (by decide) (by decide) ?_
            refine aw_goto 38 dX9_isNumber_34 rfl ?_
            refine aw_zreturn dX9_isNumber_38 rfl (Nat.le_refl _) (Nat.le_refl _) (by first | decide | omega) (by first | decide | omega) ?_
            exact ⟨am_ri (by first | (rw [if_pos (by omega)]; done) | (rw [if_neg (by omega)]; done)), rfl, rfl⟩
theorem c_X9_number {i k : Int} (hM : MS h σ) (hW : WFst σ) : Sem M_X9_number [vR 373, vI i, vI k] (TT e q n L) h 0 0 (PM (sp_number σ i k) h (TT e q n L)) := by
  unfold sp_number
  have ev : mV h 379 0 = s_liv σ := hM.2.2.2.2.1
  have ec : h 379 3 = s_liv σ 0 0 := mA_c ev
  have ws := wf_sh hW.2.2.2.1
  have k1 : 0 ≤ i ∧ i ≤ h 379 3 - 1 → h 379 (5 + 4 * i) = s_liv σ 1 i ∧ 1 ≤ s_liv σ 1 i ∧ s_liv σ 1 i ≤ 5 := fun z => by
    have hL := wf_liv hW.2.2.2.1 (by omega)
    have := hL.1.2.2.2.2.2.2.2.2 i (by omega) (by omega)
    exact ⟨mA1 ev (by omega) (by omega), this.1, this.2.1⟩
  refine sem_intro (by decide) rfl (Nat.le_of_ble_eq_true rfl) rfl ?_
  refine aw_aload_n dX9_number_0 rfl ?_
  refine aw_iload_n dX9_number_1 rfl ?_
  refine aw_v1i dX9_number_2 vl_RX9_202 (by first | rfl | assumption) (Nat.le_of_ble_eq_true rfl) (Nat.le_of_ble_eq_true rfl) (Nat.le_of_ble_eq_true rfl) (Nat.le_refl _) (Nat.le_refl _) (c_X9_isItem (by omega) (by omega)) ?_
  refine aw_ifB_eq 40 dX9_number_5 rfl (fun c5 => ?_) (fun c5 => ?_)
  · refine aw_ldc (n := -1000001) dX9_number_40 kc_RX9_70 (by decide) ?_
    refine aw_ireturn dX9_number_42 rfl (Nat.le_refl _) (Nat.le_refl _) ?_
    first | rw [if_pos (by omega)] | (unfold mbn at c37; rw [if_pos (by omega)])
    exact ⟨rfl, rfl, hM, fun _ _ => rfl⟩
  · refine aw_aload_n dX9_number_8 rfl ?_
    refine aw_getR1 dX9_number_9 fx_RX9_25 (by first | rfl | assumption) (by first | rfl | assumption) ?_
    refine aw_iconst dX9_number_12 (by decide) (by decide) ?_
    refine aw_iconst dX9_number_13 (by decide) (by decide) ?_
    refine aw_iload_n dX9_number_14 rfl ?_
    refine aw_imul dX9_number_15 (by omega) (by omega) ?_
    refine aw_iadd dX9_number_16 (by omega) (by omega) ?_
    refine aw_iaload dX9_number_17 (by first | rfl | assumption) (by omega) (by omega) ?_
    obtain ⟨kk1, kk2, kk3⟩ := k1 c5
    rw [kk1]
    refine aw_iconst dX9_number_18 (by decide) (by decide) ?_
    refine aw_icmp_eq 40 dX9_number_19 rfl (fun c19 => ?_) (fun c19 => ?_)
    · refine aw_ldc (n := -1000001) dX9_number_40 kc_RX9_70 (by decide) ?_
      refine aw_ireturn dX9_number_42 rfl (Nat.le_refl _) (Nat.le_refl _) ?_
      first | rw [if_pos (by omega)] | (unfold mbn at c37; rw [if_pos (by omega)])
      exact ⟨rfl, rfl, hM, fun _ _ => rfl⟩
    · refine aw_aload_n dX9_number_22 rfl ?_
      refine aw_aload_n dX9_number_23 rfl ?_
      refine aw_getR1 dX9_number_24 fx_RX9_25 (by first | rfl | assumption) (by first | rfl | assumption) ?_
      refine aw_iconst dX9_number_27 (by decide) (by decide) ?_
      refine aw_iconst dX9_number_28 (by decide) (by decide) ?_
      refine aw_iload_n dX9_number_29 rfl ?_
      refine aw_imul dX9_number_30 (by omega) (by omega) ?_
      refine aw_iadd dX9_number_31 (by omega) (by omega) ?_
      refine aw_iaload dX9_number_32 (by first | rfl | assumption) (by omega) (by omega) ?_
      rw [kk1]
      refine aw_iload_n dX9_number_33 rfl ?_
      refine aw_v2i dX9_number_34 vl_RX9_205 (by first | rfl | assumption) (Nat.le_of_ble_eq_true rfl) (Nat.le_of_ble_eq_true rfl) (Nat.le_of_ble_eq_true rfl) (Nat.le_refl _) (Nat.le_refl _) (c_X9_isNumber (by omega) (by omega) kk2 kk3) ?_
      refine aw_ifB_ne 43 dX9_number_37 rfl (fun c37 => ?_) (fun c37 => ?_)
      · refine aw_aload_n dX9_number_43 rfl ?_
        refine aw_v0q dX9_number_44 vl_RX9_195 (by first | rfl | assumption) (Nat.le_of_ble_eq_true rfl) (Nat.le_of_ble_eq_true rfl) (Nat.le_of_ble_eq_true rfl) (Nat.le_refl _) (Nat.le_refl _) (n_notes hM hW) ?_
        intro v t' h1 hq
        obtain ⟨rfl, rfl, n1, n2, n3⟩ := hq
        have ev1 : mV h1 379 0 = s_liv σ := by rw [← ev]; exact mV_fr (n2 379 (by decide) (by decide))
        have e2 : h1 379 (5 + 4 * i + 1) = s_liv σ 2 i := mA2 ev1 (by omega) (by omega)
        refine aw_aload_n dX9_number_47 rfl ?_
        refine aw_getR1 dX9_number_48 fx_RX9_25 (by first | rfl | assumption) (by first | rfl | assumption) ?_
        refine aw_iconst dX9_number_51 (by decide) (by decide) ?_
        refine aw_iconst dX9_number_52 (by decide) (by decide) ?_
        refine aw_iload_n dX9_number_53 rfl ?_
        refine aw_imul dX9_number_54 (by omega) (by omega) ?_
        refine aw_iadd dX9_number_55 (by omega) (by omega) ?_
        refine aw_iconst dX9_number_56 (by decide) (by decide) ?_
        refine aw_iadd dX9_number_57 (by omega) (by omega) ?_
        refine aw_iaload dX9_number_58 (by first | rfl | assumption) (by omega) (by omega) ?_
        rw [e2]
        refine aw_istore_n (ls' := [_, _, _, _]) dX9_number_59 (by decide) rfl ?_
        refine aw_aload_n dX9_number_60 rfl ?_
        refine aw_getR1 dX9_number_61 fx_RX9_25 (by first | rfl | assumption) (by first | rfl | assumption) ?_
        refine aw_iconst dX9_number_64 (by decide) (by decide) ?_
        refine aw_iconst dX9_number_65 (by decide) (by decide) ?_
        refine aw_iload_n dX9_number_66 rfl ?_
        refine aw_imul dX9_number_67 (by omega) (by omega) ?_
        refine aw_iadd dX9_number_68 (by omega) (by omega) ?_
        refine aw_iconst dX9_number_69 (by decide) (by decide) ?_
        refine aw_iadd dX9_number_70 (by omega) (by omega) ?_
        refine aw_iload_n dX9_number_71 rfl ?_
        refine aw_iastore dX9_number_72 (by first | rfl | assumption) (by omega) (by omega) (by omega) ?_
        refine aw_iload_n dX9_number_73 rfl ?_
        refine aw_ireturn dX9_number_74 rfl (Nat.le_refl _) (Nat.le_refl _) ?_
        unfold mbn at c37
        rw [if_neg (by omega)]
        exact ⟨rfl, rfl, hM.noted (pushP_le hM.2.2.2.2.2.1.2.1) n1 n2 n3 (mV_set (j0 := 2) ev1 (by decide) (by omega) (by omega) rfl) (fun c c1 c2 => am_up_ne c1)⟩
      · refine aw_ldc (n := -1000001) dX9_number_40 kc_RX9_70 (by decide) ?_
        refine aw_ireturn dX9_number_42 rfl (Nat.le_refl _) (Nat.le_refl _) ?_
        first | rw [if_pos (by omega)] | (unfold mbn at c37; rw [if_pos (by omega)])
        exact ⟨rfl, rfl, hM, fun _ _ => rfl⟩
theorem c_X9_rule {w x : Int} (hM : MS h σ) (hW : WFst σ) : Sem M_X9_rule [vR 373, vI w, vI x] (TT e q n L) h 0 0 (PM (sp_rule σ w x) h (TT e q n L)) := by
  unfold sp_rule
  have ev : mV h 379 0 = s_liv σ := hM.2.2.2.2.1
  have e0 : h 379 0 = s_liv σ 0 1 := mA_w ev
  have ws := wf_sh hW.2.2.2.1
  have tl : s_liv σ 0 0 ≠ 0 → ((w = 0 ∧ 4 ≤ x ∧ x ≤ 20) ∨ (w = 1 ∧ 1 ≤ x ∧ x ≤ 5) ∨ (w = 2 ∧ 1 ≤ x ∧ x ≤ 87)) → ∀ z : Int, AW M_X9_rule 0 0 (PM (s_liv σ 0 (w + 1), wLP σ (setV (s_liv σ) 0 (w + 1) x) (pushP (s_pas σ) (s_liv σ))) h (TT e q n L)) 66 [some (vR 373), some (vI w), some (vI x), some (vI z), none] [] (TT e q n L) h 0 0 := by
    intro hn hw z
    have w0 : 0 ≤ w := by omega
    have w2 : w ≤ 2 := by omega
    refine aw_aload_n dX9_rule_66 rfl ?_
    refine aw_v0q dX9_rule_67 vl_RX9_195 (by first | rfl | assumption) (Nat.le_of_ble_eq_true rfl) (Nat.le_of_ble_eq_true rfl) (Nat.le_of_ble_eq_true rfl) (Nat.le_refl _) (Nat.le_refl _) (n_notes hM hW) ?_
    intro v t' h1 hq
    obtain ⟨rfl, rfl, n1, n2, n3⟩ := hq
    have ev1 : mV h1 379 0 = s_liv σ := by rw [← ev]; exact mV_fr (n2 379 (by decide) (by decide))
    have e2 : h1 379 w = s_liv σ 0 (w + 1) := by
      rcases (show w = 0 ∨ w = 1 ∨ w = 2 by omega) with y | y | y
      · rw [y]; exact mA_w ev1
      · rw [y]; exact mA_l ev1
      · rw [y]; exact mA_f ev1
    refine aw_aload_n dX9_rule_70 rfl ?_
    refine aw_getR1 dX9_rule_71 fx_RX9_25 (by first | rfl | assumption) (by first | rfl | assumption) ?_
    refine aw_iload_n dX9_rule_74 rfl ?_
    refine aw_iaload dX9_rule_75 (by first | rfl | assumption) (by omega) (by omega) ?_
    rw [e2]
    refine aw_istore (ls' := [_, _, _, _, _]) dX9_rule_76 (by decide) rfl ?_
    refine aw_aload_n dX9_rule_78 rfl ?_
    refine aw_getR1 dX9_rule_79 fx_RX9_25 (by first | rfl | assumption) (by first | rfl | assumption) ?_
    refine aw_iload_n dX9_rule_82 rfl ?_
    refine aw_iload_n dX9_rule_83 rfl ?_
    refine aw_iastore dX9_rule_84 (by first | rfl | assumption) (by omega) (by omega) (by omega) ?_
    refine aw_iload dX9_rule_85 rfl ?_
    refine aw_ireturn dX9_rule_87 rfl (Nat.le_refl _) (Nat.le_refl _) ?_
    exact ⟨rfl, rfl, hM.noted (pushP_le hM.2.2.2.2.2.1.2.1) n1 n2 n3 (mV_setS ev1 w0 w2) (fun c c1 c2 => am_up_ne c1)⟩
  refine sem_intro (by decide) rfl (Nat.le_of_ble_eq_true rfl) rfl ?_
  refine aw_aload_n dX9_rule_0 rfl ?_
  refine aw_v0i dX9_rule_1 vl_RX9_191 (by first | rfl | assumption) (Nat.le_of_ble_eq_true rfl) (Nat.le_of_ble_eq_true rfl) (Nat.le_of_ble_eq_true rfl) (Nat.le_refl _) (Nat.le_refl _) (c_X9_isSheet) ?_
  refine aw_ifB_ne 10 dX9_rule_4 rfl (fun c4 => ?_) (fun c4 => ?_)
  · refine aw_iload_n dX9_rule_10 rfl ?_
    refine aw_if_ne 24 dX9_rule_11 rfl (fun c11 => ?_) (fun c11 => ?_)
    · refine aw_iload_n dX9_rule_24 rfl ?_
      refine aw_iconst dX9_rule_25 (by decide) (by decide) ?_
      refine aw_icmp_ne 38 dX9_rule_26 rfl (fun c26 => ?_) (fun c26 => ?_)
      · refine aw_iload_n dX9_rule_38 rfl ?_
        refine aw_iconst dX9_rule_39 (by decide) (by decide) ?_
        refine aw_icmp_ne 57 dX9_rule_40 rfl (fun c40 => ?_) (fun c40 => ?_)
        · refine aw_iconst dX9_rule_57 (by decide) (by decide) ?_
          refine aw_istore_n (ls' := [_, _, _, _, _]) dX9_rule_58 (by decide) rfl ?_
          refine aw_iload_n dX9_rule_59 rfl ?_
          refine aw_if_ne 66 dX9_rule_60 rfl (fun c60 => ?_) (fun c60 => ?_)
          · first | (exfalso; omega) | (rw [if_neg (by omega), if_pos (by omega)]; exact tl (by omega) (by omega) _)
          · refine aw_ldc (n := -1000001) dX9_rule_63 kc_RX9_70 (by decide) ?_
            refine aw_ireturn dX9_rule_65 rfl (Nat.le_refl _) (Nat.le_refl _) ?_
            first | (exfalso; omega) | (rw [if_neg (by omega), if_neg (by omega)]; exact ⟨rfl, rfl, hM, fun _ _ => rfl⟩)
        · refine aw_iload_n dX9_rule_43 rfl ?_
          refine aw_iconst dX9_rule_44 (by decide) (by decide) ?_
          refine aw_bipush dX9_rule_45 (by decide) (by decide) ?_
          refine aw_s3i dX9_rule_47 sl_RX9_62 (Nat.le_of_ble_eq_true rfl) (Nat.le_of_ble_eq_true rfl) (Nat.le_of_ble_eq_true rfl) (Nat.le_refl _) (Nat.le_refl _) (c_X9_in) ?_
          refine aw_ifB_eq 57 dX9_rule_50 rfl (fun c50 => ?_) (fun c50 => ?_)
          · refine aw_iconst dX9_rule_57 (by decide) (by decide) ?_
            refine aw_istore_n (ls' := [_, _, _, _, _]) dX9_rule_58 (by decide) rfl ?_
            refine aw_iload_n dX9_rule_59 rfl ?_
            refine aw_if_ne 66 dX9_rule_60 rfl (fun c60 => ?_) (fun c60 => ?_)
            · first | (exfalso; omega) | (rw [if_neg (by omega), if_pos (by omega)]; exact tl (by omega) (by omega) _)
            · refine aw_ldc (n := -1000001) dX9_rule_63 kc_RX9_70 (by decide) ?_
              refine aw_ireturn dX9_rule_65 rfl (Nat.le_refl _) (Nat.le_refl _) ?_
              first | (exfalso; omega) | (rw [if_neg (by omega), if_neg (by omega)]; exact ⟨rfl, rfl, hM, fun _ _ => rfl⟩)
          · refine aw_iconst dX9_rule_53 (by decide) (by decide) ?_
            refine aw_goto 58 dX9_rule_54 rfl ?_
            refine aw_istore_n (ls' := [_, _, _, _, _]) dX9_rule_58 (by decide) rfl ?_
            refine aw_iload_n dX9_rule_59 rfl ?_
            refine aw_if_ne 66 dX9_rule_60 rfl (fun c60 => ?_) (fun c60 => ?_)
            · first | (exfalso; omega) | (rw [if_neg (by omega), if_pos (by omega)]; exact tl (by omega) (by omega) _)
            · refine aw_ldc (n := -1000001) dX9_rule_63 kc_RX9_70 (by decide) ?_
              refine aw_ireturn dX9_rule_65 rfl (Nat.le_refl _) (Nat.le_refl _) ?_
              first | (exfalso; omega) | (rw [if_neg (by omega), if_neg (by omega)]; exact ⟨rfl, rfl, hM, fun _ _ => rfl⟩)
      · refine aw_iload_n dX9_rule_29 rfl ?_
        refine aw_iconst dX9_rule_30 (by decide) (by decide) ?_
        refine aw_iconst dX9_rule_31 (by decide) (by decide) ?_
        refine aw_s3i dX9_rule_32 sl_RX9_62 (Nat.le_of_ble_eq_true rfl) (Nat.le_of_ble_eq_true rfl) (Nat.le_of_ble_eq_true rfl) (Nat.le_refl _) (Nat.le_refl _) (c_X9_in) ?_
        refine aw_ifB_ne 53 dX9_rule_35 rfl (fun c35 => ?_) (fun c35 => ?_)
        · refine aw_iconst dX9_rule_53 (by decide) (by decide) ?_
          refine aw_goto 58 dX9_rule_54 rfl ?_
          refine aw_istore_n (ls' := [_, _, _, _, _]) dX9_rule_58 (by decide) rfl ?_
          refine aw_iload_n dX9_rule_59 rfl ?_
          refine aw_if_ne 66 dX9_rule_60 rfl (fun c60 => ?_) (fun c60 => ?_)
          · first | (exfalso; omega) | (rw [if_neg (by omega), if_pos (by omega)]; exact tl (by omega) (by omega) _)
          · refine aw_ldc (n := -1000001) dX9_rule_63 kc_RX9_70 (by decide) ?_
            refine aw_ireturn dX9_rule_65 rfl (Nat.le_refl _) (Nat.le_refl _) ?_
            first | (exfalso; omega) | (rw [if_neg (by omega), if_neg (by omega)]; exact ⟨rfl, rfl, hM, fun _ _ => rfl⟩)
        · refine aw_iload_n dX9_rule_38 rfl ?_
          refine aw_iconst dX9_rule_39 (by decide) (by decide) ?_
          refine aw_icmp_ne 57 dX9_rule_40 rfl (fun c40 => ?_) (fun c40 => ?_)
          · refine aw_iconst dX9_rule_57 (by decide) (by decide) ?_
            refine aw_istore_n (ls' := [_, _, _, _, _]) dX9_rule_58 (by decide) rfl ?_
            refine aw_iload_n dX9_rule_59 rfl ?_
            refine aw_if_ne 66 dX9_rule_60 rfl (fun c60 => ?_) (fun c60 => ?_)
            · first | (exfalso; omega) | (rw [if_neg (by omega), if_pos (by omega)]; exact tl (by omega) (by omega) _)
            · refine aw_ldc (n := -1000001) dX9_rule_63 kc_RX9_70 (by decide) ?_
              refine aw_ireturn dX9_rule_65 rfl (Nat.le_refl _) (Nat.le_refl _) ?_
              first | (exfalso; omega) | (rw [if_neg (by omega), if_neg (by omega)]; exact ⟨rfl, rfl, hM, fun _ _ => rfl⟩)
          · refine aw_iload_n dX9_rule_43 rfl ?_
            refine aw_iconst dX9_rule_44 (by decide) (by decide) ?_
            refine aw_bipush dX9_rule_45 (by decide) (by decide) ?_
            refine aw_s3i dX9_rule_47 sl_RX9_62 (Nat.le_of_ble_eq_true rfl) (Nat.le_of_ble_eq_true rfl) (Nat.le_of_ble_eq_true rfl) (Nat.le_refl _) (Nat.le_refl _) (c_X9_in) ?_
            refine aw_ifB_eq 57 dX9_rule_50 rfl (fun c50 => ?_) (fun c50 => ?_)
            · refine aw_iconst dX9_rule_57 (by decide) (by decide) ?_
              refine aw_istore_n (ls' := [_, _, _, _, _]) dX9_rule_58 (by decide) rfl ?_
              refine aw_iload_n dX9_rule_59 rfl ?_
              refine aw_if_ne 66 dX9_rule_60 rfl (fun c60 => ?_) (fun c60 => ?_)
              · first | (exfalso; omega) | (rw [if_neg (by omega), if_pos (by omega)]; exact tl (by omega) (by omega) _)
              · refine aw_ldc (n := -1000001) dX9_rule_63 kc_RX9_70 (by decide) ?_
                refine aw_ireturn dX9_rule_65 rfl (Nat.le_refl _) (Nat.le_refl _) ?_
                first | (exfalso; omega) | (rw [if_neg (by omega), if_neg (by omega)]; exact ⟨rfl, rfl, hM, fun _ _ => rfl⟩)
            · refine aw_iconst dX9_rule_53 (by decide) (by decide) ?_
              refine aw_goto 58 dX9_rule_54 rfl ?_
              refine aw_istore_n (ls' := [_, _, _, _, _]) dX9_rule_58 (by decide) rfl ?_
              refine aw_iload_n dX9_rule_59 rfl ?_
              refine aw_if_ne 66 dX9_rule_60 rfl (fun c60 => ?_) (fun c60 => ?_)
              · first | (exfalso; omega) | (rw [if_neg (by omega), if_pos (by omega)]; exact tl (by omega) (by omega) _)
              · refine aw_ldc (n := -1000001) dX9_rule_63 kc_RX9_70 (by decide) ?_
                refine aw_ireturn dX9_rule_65 rfl (Nat.le_refl _) (Nat.le_refl _) ?_
                first | (exfalso; omega) | (rw [if_neg (by omega), if_neg (by omega)]; exact ⟨rfl, rfl, hM, fun _ _ => rfl⟩)
    · refine aw_iload_n dX9_rule_14 rfl ?_
      refine aw_iconst dX9_rule_15 (by decide) (by decide) ?_
      refine aw_bipush dX9_rule_16 (by decide) (by decide) ?_
      refine aw_s3i dX9_rule_18 sl_RX9_62 (Nat.le_of_ble_eq_true rfl) (Nat.le_of_ble_eq_true rfl) (Nat.le_of_ble_eq_true rfl) (Nat.le_refl _) (Nat.le_refl _) (c_X9_in) ?_
      refine aw_ifB_ne 53 dX9_rule_21 rfl (fun c21 => ?_) (fun c21 => ?_)
      · refine aw_iconst dX9_rule_53 (by decide) (by decide) ?_
        refine aw_goto 58 dX9_rule_54 rfl ?_
        refine aw_istore_n (ls' := [_, _, _, _, _]) dX9_rule_58 (by decide) rfl ?_
        refine aw_iload_n dX9_rule_59 rfl ?_
        refine aw_if_ne 66 dX9_rule_60 rfl (fun c60 => ?_) (fun c60 => ?_)
        · first | (exfalso; omega) | (rw [if_neg (by omega), if_pos (by omega)]; exact tl (by omega) (by omega) _)
        · refine aw_ldc (n := -1000001) dX9_rule_63 kc_RX9_70 (by decide) ?_
          refine aw_ireturn dX9_rule_65 rfl (Nat.le_refl _) (Nat.le_refl _) ?_
          first | (exfalso; omega) | (rw [if_neg (by omega), if_neg (by omega)]; exact ⟨rfl, rfl, hM, fun _ _ => rfl⟩)
      · refine aw_iload_n dX9_rule_24 rfl ?_
        refine aw_iconst dX9_rule_25 (by decide) (by decide) ?_
        refine aw_icmp_ne 38 dX9_rule_26 rfl (fun c26 => ?_) (fun c26 => ?_)
        · refine aw_iload_n dX9_rule_38 rfl ?_
          refine aw_iconst dX9_rule_39 (by decide) (by decide) ?_
          refine aw_icmp_ne 57 dX9_rule_40 rfl (fun c40 => ?_) (fun c40 => ?_)
          · refine aw_iconst dX9_rule_57 (by decide) (by decide) ?_
            refine aw_istore_n (ls' := [_, _, _, _, _]) dX9_rule_58 (by decide) rfl ?_
            refine aw_iload_n dX9_rule_59 rfl ?_
            refine aw_if_ne 66 dX9_rule_60 rfl (fun c60 => ?_) (fun c60 => ?_)
            · first | (exfalso; omega) | (rw [if_neg (by omega), if_pos (by omega)]; exact tl (by omega) (by omega) _)
            · refine aw_ldc (n := -1000001) dX9_rule_63 kc_RX9_70 (by decide) ?_
              refine aw_ireturn dX9_rule_65 rfl (Nat.le_refl _) (Nat.le_refl _) ?_
              first | (exfalso; omega) | (rw [if_neg (by omega), if_neg (by omega)]; exact ⟨rfl, rfl, hM, fun _ _ => rfl⟩)
          · refine aw_iload_n dX9_rule_43 rfl ?_
            refine aw_iconst dX9_rule_44 (by decide) (by decide) ?_
            refine aw_bipush dX9_rule_45 (by decide) (by decide) ?_
            refine aw_s3i dX9_rule_47 sl_RX9_62 (Nat.le_of_ble_eq_true rfl) (Nat.le_of_ble_eq_true rfl) (Nat.le_of_ble_eq_true rfl) (Nat.le_refl _) (Nat.le_refl _) (c_X9_in) ?_
            refine aw_ifB_eq 57 dX9_rule_50 rfl (fun c50 => ?_) (fun c50 => ?_)
            · refine aw_iconst dX9_rule_57 (by decide) (by decide) ?_
              refine aw_istore_n (ls' := [_, _, _, _, _]) dX9_rule_58 (by decide) rfl ?_
              refine aw_iload_n dX9_rule_59 rfl ?_
              refine aw_if_ne 66 dX9_rule_60 rfl (fun c60 => ?_) (fun c60 => ?_)
              · first | (exfalso; omega) | (rw [if_neg (by omega), if_pos (by omega)]; exact tl (by omega) (by omega) _)
              · refine aw_ldc (n := -1000001) dX9_rule_63 kc_RX9_70 (by decide) ?_
                refine aw_ireturn dX9_rule_65 rfl (Nat.le_refl _) (Nat.le_refl _) ?_
                first | (exfalso; omega) | (rw [if_neg (by omega), if_neg (by omega)]; exact ⟨rfl, rfl, hM, fun _ _ => rfl⟩)
            · refine aw_iconst dX9_rule_53 (by decide) (by decide) ?_
              refine aw_goto 58 dX9_rule_54 rfl ?_
              refine aw_istore_n (ls' := [_, _, _, _, _]) dX9_rule_58 (by decide) rfl ?_
              refine aw_iload_n dX9_rule_59 rfl ?_
              refine aw_if_ne 66 dX9_rule_60 rfl (fun c60 => ?_) (fun c60 => ?_)
              · first | (exfalso; omega) | (rw [if_neg (by omega), if_pos (by omega)]; exact tl (by omega) (by omega) _)
              · refine aw_ldc (n := -1000001) dX9_rule_63 kc_RX9_70 (by decide) ?_
                refine aw_ireturn dX9_rule_65 rfl (Nat.le_refl _) (Nat.le_refl _) ?_
                first | (exfalso; omega) | (rw [if_neg (by omega), if_neg (by omega)]; exact ⟨rfl, rfl, hM, fun _ _ => rfl⟩)
        · refine aw_iload_n dX9_rule_29 rfl ?_
          refine aw_iconst dX9_rule_30 (by decide) (by decide) ?_
          refine aw_iconst dX9_rule_31 (by decide) (by decide) ?_
          refine aw_s3i dX9_rule_32 sl_RX9_62 (Nat.le_of_ble_eq_true rfl) (Nat.le_of_ble_eq_true rfl) (Nat.le_of_ble_eq_true rfl) (Nat.le_refl _) (Nat.le_refl _) (c_X9_in) ?_
          refine aw_ifB_ne 53 dX9_rule_35 rfl (fun c35 => ?_) (fun c35 => ?_)
          · refine aw_iconst dX9_rule_53 (by decide) (by decide) ?_
            refine aw_goto 58 dX9_rule_54 rfl ?_
            refine aw_istore_n (ls' := [_, _, _, _, _]) dX9_rule_58 (by decide) rfl ?_
            refine aw_iload_n dX9_rule_59 rfl ?_
            refine aw_if_ne 66 dX9_rule_60 rfl (fun c60 => ?_) (fun c60 => ?_)
            · first | (exfalso; omega) | (rw [if_neg (by omega), if_pos (by omega)]; exact tl (by omega) (by omega) _)
            · refine aw_ldc (n := -1000001) dX9_rule_63 kc_RX9_70 (by decide) ?_
              refine aw_ireturn dX9_rule_65 rfl (Nat.le_refl _) (Nat.le_refl _) ?_
              first | (exfalso; omega) | (rw [if_neg (by omega), if_neg (by omega)]; exact ⟨rfl, rfl, hM, fun _ _ => rfl⟩)
          · refine aw_iload_n dX9_rule_38 rfl ?_
            refine aw_iconst dX9_rule_39 (by decide) (by decide) ?_
            refine aw_icmp_ne 57 dX9_rule_40 rfl (fun c40 => ?_) (fun c40 => ?_)
            · refine aw_iconst dX9_rule_57 (by decide) (by decide) ?_
              refine aw_istore_n (ls' := [_, _, _, _, _]) dX9_rule_58 (by decide) rfl ?_
              refine aw_iload_n dX9_rule_59 rfl ?_
              refine aw_if_ne 66 dX9_rule_60 rfl (fun c60 => ?_) (fun c60 => ?_)
              · first | (exfalso; omega) | (rw [if_neg (by omega), if_pos (by omega)]; exact tl (by omega) (by omega) _)
              · refine aw_ldc (n := -1000001) dX9_rule_63 kc_RX9_70 (by decide) ?_
                refine aw_ireturn dX9_rule_65 rfl (Nat.le_refl _) (Nat.le_refl _) ?_
                first | (exfalso; omega) | (rw [if_neg (by omega), if_neg (by omega)]; exact ⟨rfl, rfl, hM, fun _ _ => rfl⟩)
            · refine aw_iload_n dX9_rule_43 rfl ?_
              refine aw_iconst dX9_rule_44 (by decide) (by decide) ?_
              refine aw_bipush dX9_rule_45 (by decide) (by decide) ?_
              refine aw_s3i dX9_rule_47 sl_RX9_62 (Nat.le_of_ble_eq_true rfl) (Nat.le_of_ble_eq_true rfl) (Nat.le_of_ble_eq_true rfl) (Nat.le_refl _) (Nat.le_refl _) (c_X9_in) ?_
              refine aw_ifB_eq 57 dX9_rule_50 rfl (fun c50 => ?_) (fun c50 => ?_)
              · refine aw_iconst dX9_rule_57 (by decide) (by decide) ?_
                refine aw_istore_n (ls' := [_, _, _, _, _]) dX9_rule_58 (by decide) rfl ?_
                refine aw_iload_n dX9_rule_59 rfl ?_
                refine aw_if_ne 66 dX9_rule_60 rfl (fun c60 => ?_) (fun c60 => ?_)
                · first | (exfalso; omega) | (rw [if_neg (by omega), if_pos (by omega)]; exact tl (by omega) (by omega) _)
                · refine aw_ldc (n := -1000001) dX9_rule_63 kc_RX9_70 (by decide) ?_
                  refine aw_ireturn dX9_rule_65 rfl (Nat.le_refl _) (Nat.le_refl _) ?_
                  first | (exfalso; omega) | (rw [if_neg (by omega), if_neg (by omega)]; exact ⟨rfl, rfl, hM, fun _ _ => rfl⟩)
              · refine aw_iconst dX9_rule_53 (by decide) (by decide) ?_
                refine aw_goto 58 dX9_rule_54 rfl ?_
                refine aw_istore_n (ls' := [_, _, _, _, _]) dX9_rule_58 (by decide) rfl ?_
                refine aw_iload_n dX9_rule_59 rfl ?_
                refine aw_if_ne 66 dX9_rule_60 rfl (fun c60 => ?_) (fun c60 => ?_)
                · first | (exfalso; omega) | (rw [if_neg (by omega), if_pos (by omega)]; exact tl (by omega) (by omega) _)
                · refine aw_ldc (n := -1000001) dX9_rule_63 kc_RX9_70 (by decide) ?_
                  refine aw_ireturn dX9_rule_65 rfl (Nat.le_refl _) (Nat.le_refl _) ?_
                  first | (exfalso; omega) | (rw [if_neg (by omega), if_neg (by omega)]; exact ⟨rfl, rfl, hM, fun _ _ => rfl⟩)
  · refine aw_ldc (n := -1000002) dX9_rule_7 kc_RX9_194 (by decide) ?_
    refine aw_ireturn dX9_rule_9 rfl (Nat.le_refl _) (Nat.le_refl _) ?_
    rw [if_pos (by omega)]
    exact ⟨rfl, rfl, hM, fun _ _ => rfl⟩
theorem c_X9_undo (hM : MS h σ) (hW : WFst σ) : Sem M_X9_undo [vR 373] (TT e q n L) h 0 0 (PM (sp_undo σ) h (TT e q n L)) := by
  unfold sp_undo
  have hp := hM.2.2.2.2.2.1
  have p1 := hp.1
  have p2 := hp.2.1
  have e17 : ∀ z : Int, am_up h 373 17 z 373 17 = z := fun z => by simp [am_up]
  refine sem_intro (by decide) rfl (Nat.le_of_ble_eq_true rfl) rfl ?_
  refine aw_aload_n dX9_undo_0 rfl ?_
  refine aw_getI dX9_undo_1 fx_RX9_149 (by first | rfl | assumption) ?_
  rw [p1]
  refine aw_if_ne 10 dX9_undo_4 rfl (fun c4 => ?_) (fun c4 => ?_)
  · refine aw_aload_n dX9_undo_10 rfl ?_
    refine aw_dup dX9_undo_11 rfl ?_
    refine aw_getI dX9_undo_12 fx_RX9_149 (by first | rfl | assumption) ?_
    rw [p1]
    refine aw_iconst dX9_undo_15 (by decide) (by decide) ?_
    refine aw_isub dX9_undo_16 (by omega) (by omega) ?_
    refine aw_putI dX9_undo_17 fp_RX9_149 (by first | rfl | assumption) ?_
    refine aw_aload_n dX9_undo_20 rfl ?_
    refine aw_getR1 dX9_undo_21 fx_RX9_34 (by first | rfl | assumption) (by first | rfl | assumption) ?_
    refine aw_bipush dX9_undo_24 (by decide) (by decide) ?_
    refine aw_aload_n dX9_undo_26 rfl ?_
    refine aw_getI dX9_undo_27 fx_RX9_149 (by first | rfl | assumption) ?_
    rw [e17]
    refine aw_imul dX9_undo_30 (by omega) (by omega) ?_
    refine aw_aload_n dX9_undo_31 rfl ?_
    refine aw_getR1 dX9_undo_32 fx_RX9_25 (by first | rfl | assumption) (by first | rfl | assumption) ?_
    refine aw_iconst dX9_undo_35 (by decide) (by decide) ?_
    refine aw_s4q dX9_undo_36 sl_RX9_145 (Nat.le_of_ble_eq_true rfl) (Nat.le_of_ble_eq_true rfl) (Nat.le_of_ble_eq_true rfl) (Nat.le_refl _) (Nat.le_refl _) (c_X9_copies (Nx := 1272) (Ny := 53) rfl rfl (by decide) (by omega) (by omega) (by omega) (by omega) (by decide) (by decide) (by decide)) ?_
    intro v t' h1 hq
    obtain ⟨rfl, rfl, k1, k2, k3⟩ := hq
    have wq := hW.2.2.2.2.1.2 ((s_pas σ).1 - 1) (by omega)
    have em := hp.2.2 ((s_pas σ).1 - 1) (by omega)
    have eo : (53 : Int) * (((s_pas σ).1 - 1 : Nat) : Int) = 53 * (((s_pas σ).1 : Int) - 1) := by omega
    rw [eo] at em
    have ev1 : mV h1 379 0 = (s_pas σ).2 ((s_pas σ).1 - 1) := by
      rw [← em]
      refine mV_congr (fun k k0 k4 => by rw [k1 k k0 k4, am_up_ne (by decide)]) ?_
      rw [show h 382 (53 * (((s_pas σ).1 : Int) - 1) + 3) = (s_pas σ).2 ((s_pas σ).1 - 1) 0 0 by rw [← em]; exact mVc.symm]
      exact (wf_cnt wq.1).2
    have e3 : h1 373 17 = ((s_pas σ).1 : Int) - 1 := by rw [k3 373 (by decide), e17]
    refine aw_aload_n dX9_undo_39 rfl ?_
    refine aw_getI dX9_undo_40 fx_RX9_149 (by first | rfl | assumption) ?_
    refine aw_ireturn dX9_undo_43 rfl (Nat.le_refl _) (Nat.le_refl _) ?_
    rw [if_neg (by omega)]
    refine ⟨am_ri e3, rfl, hM.act (p := popP (s_pas σ)) (by show (s_pas σ).1 - 1 ≤ 24; omega) ev1 ⟨by rw [e3]; show _ = (((s_pas σ).1 - 1 : Nat) : Int); omega, fun j hj => ?_⟩ (fun c hc => by rw [k3 c (by omega), am_up_ne (by omega)]) (fun k hk => by rw [k3 373 (by decide)]; unfold am_up; rw [if_neg (by omega)]), fun c hc => by rw [k3 c (by omega), am_up_ne (by omega)]⟩
    have hj2 : j < (s_pas σ).1 - 1 := hj
    rw [mV_fr (k3 382 (by decide)), mV_fr (am_up_ne (by decide))]
    exact hp.2.2 j (by omega)
  · refine aw_ldc (n := -1000002) dX9_undo_7 kc_RX9_194 (by decide) ?_
    refine aw_ireturn dX9_undo_9 rfl (Nat.le_refl _) (Nat.le_refl _) ?_
    rw [if_pos (by omega)]
    exact ⟨rfl, rfl, hM, fun _ _ => rfl⟩
end MOK
