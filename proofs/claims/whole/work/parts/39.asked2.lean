section ASK2
variable {e q n L : Nat} {h : Mem} {σ : ST}
set_option maxHeartbeats 1000000 in
theorem c_X8_settled {w : Int} (hC : CS h σ) (hW : WFst σ) (hro : RO h) : Sem M_X8_settled [vR 0, vI w] (TT e q n L) h 0 0 (PC (sp_settled σ w) h (TT e q n L)) := by
  have eV : cV h 16 = s_liv σ := hC.2.2.2.2.1
  have e0 : h 16 0 = s_liv σ 0 0 := by rw [← eV, cVc]
  have hcn := wf_cnt hW.2.2.2.1
  unfold sp_settled
  refine sem_intro (by decide) rfl (Nat.le_of_ble_eq_true rfl) rfl ?_
  refine aw_aload_n dX8_settled_0 rfl ?_
  refine aw_v0i dX8_settled_1 vl_RX8_142 (by first | rfl | assumption) (Nat.le_of_ble_eq_true rfl) (Nat.le_of_ble_eq_true rfl) (Nat.le_of_ble_eq_true rfl) (Nat.le_refl _) (Nat.le_refl _) (c_X8_isWithoutSheet) ?_
  refine aw_ifB_eq 10 dX8_settled_4 rfl (fun c4 => ?_) (fun c4 => ?_)
  · refine aw_iload_n dX8_settled_10 rfl ?_
    refine aw_if_lt 19 dX8_settled_11 rfl (fun c11 => ?_) (fun c11 => ?_)
    · refine aw_ldc (n := -1000001) dX8_settled_19 kc_RX8_80 (by decide) ?_
      refine aw_ireturn dX8_settled_21 rfl (Nat.le_refl _) (Nat.le_refl _) ?_
      rw [if_neg (by omega), if_pos (by omega)]
      exact ⟨rfl, rfl, hC, fun _ _ => rfl⟩
    · refine aw_iload_n dX8_settled_14 rfl ?_
      refine aw_iconst dX8_settled_15 (by decide) (by decide) ?_
      refine aw_icmp_le 22 dX8_settled_16 rfl (fun c16 => ?_) (fun c16 => ?_)
      · have hL := wf_liv hW.2.2.2.1 (by omega)
        have hok := settles_ok (stop := false) hL.1
        rw [if_neg (by omega), if_neg (by omega)]
        unfold stdv
        refine aw_aload_n dX8_settled_22 rfl ?_
        refine aw_getR1 dX8_settled_23 fx_RX8_34 (by first | rfl | assumption) (by first | rfl | assumption) ?_
        refine aw_aload_n dX8_settled_26 rfl ?_
        refine aw_getR1 dX8_settled_27 fx_RX8_30 (by first | rfl | assumption) (by first | rfl | assumption) ?_
        refine aw_v1q dX8_settled_30 vl_RX8_133 (by first | rfl | assumption) (Nat.le_of_ble_eq_true rfl) (Nat.le_of_ble_eq_true rfl) (Nat.le_of_ble_eq_true rfl) (Nat.le_refl _) (Nat.le_refl _) (c_X7_takeFrom sh_21 sh_16 (by decide) (by omega)) ?_
        intro v t' h1 hq
        obtain ⟨rfl, rfl, f1, f2⟩ := hq
        rw [eV] at f1
        refine aw_aload_n dX8_settled_33 rfl ?_
        refine aw_getR1 dX8_settled_34 fx_RX8_40 (by first | rfl | assumption) (by first | rfl | assumption) ?_
        refine aw_aload_n dX8_settled_37 rfl ?_
        refine aw_getR1 dX8_settled_38 fx_RX8_34 (by first | rfl | assumption) (by first | rfl | assumption) ?_
        refine aw_iconst dX8_settled_41 (by decide) (by decide) ?_
        refine aw_v2q dX8_settled_42 vl_RX8_157 (by first | rfl | assumption) (Nat.le_of_ble_eq_true rfl) (Nat.le_of_ble_eq_true rfl) (Nat.le_of_ble_eq_true rfl) (Nat.le_refl _) (Nat.le_refl _) (c_X6_bringToRest (stop := false) sh_21 isSe (by decide) (fun j j0 j1 => by rw [f2 _ (by decide)]; exact hro j j0 j1) (by rw [f1]; exact hL.1) rfl) ?_
        intro v t' h2 hq
        obtain ⟨rfl, rfl, g1, g2, g3, g4, g5, g6⟩ := hq
        rw [f1] at g1 g2 g3 g4 g5
        have k16 : ∀ c, c < 21 ∨ 231 < c → h2 c = h c := fun c hc => by rw [g6 c (by omega) (by omega) (by omega), f2 c (by omega)]
        have fin : CS h2 σ ∧ ∀ c, 373 ≤ c → h2 c = h c := ⟨hC.fr (fun c hc => k16 c (by unfold KC at hc; omega)), fun c hc => k16 c (by omega)⟩
        have e21 : h2 21 0 = s_liv σ 0 0 := by rw [← cVc (h := h2), g1, hok.2.2.2.2.2]
        refine aw_iload_n dX8_settled_45 rfl ?_
        refine aw_table 120 dX8_settled_46 rfl (fun c46 => ?_) (fun g46a g46b => ?_)
        · refine aw_aload_n dX8_settled_120 rfl ?_
          refine aw_getR1 dX8_settled_121 fx_RX8_40 (by first | rfl | assumption) (by first | rfl | assumption) ?_
          refine aw_getI dX8_settled_124 fx_RX8_248 (by first | rfl | assumption) ?_
          refine aw_if_eq 134 dX8_settled_127 rfl (fun c127 => ?_) (fun c127 => ?_)
          · refine aw_iconst dX8_settled_134 (by decide) (by decide) ?_
            refine aw_ireturn dX8_settled_135 rfl (Nat.le_refl _) (Nat.le_refl _) ?_
            refine ⟨am_ri ?_, rfl, fin⟩
            rw [if_neg (by omega), if_neg (by omega), if_neg (by omega), if_neg (by omega), if_neg (by omega)]
            rw [g5] at c127
            split <;> simp_all
          · refine aw_iconst dX8_settled_130 (by decide) (by decide) ?_
            refine aw_goto 135 dX8_settled_131 rfl ?_
            refine aw_ireturn dX8_settled_135 rfl (Nat.le_refl _) (Nat.le_refl _) ?_
            refine ⟨am_ri ?_, rfl, fin⟩
            rw [if_neg (by omega), if_neg (by omega), if_neg (by omega), if_neg (by omega), if_neg (by omega)]
            rw [g5] at c127
            split <;> simp_all
        · rcases tcs_0_4 g46a g46b with c46 | c46 | c46 | c46 | c46
          · refine aw_tableIn 80 dX8_settled_46 g46a g46b (by rw [c46]; rfl) rfl ?_
            refine aw_aload_n dX8_settled_80 rfl ?_
            refine aw_getR1 dX8_settled_81 fx_RX8_40 (by first | rfl | assumption) (by first | rfl | assumption) ?_
            refine aw_getI dX8_settled_84 fx_RX8_161 (by first | rfl | assumption) ?_
            refine aw_ireturn dX8_settled_87 rfl (Nat.le_refl _) (Nat.le_refl _) ?_
            exact ⟨am_ri (by rw [if_pos c46]; exact g2), rfl, fin⟩
          · refine aw_tableIn 88 dX8_settled_46 g46a g46b (by rw [c46]; rfl) rfl ?_
            refine aw_aload_n dX8_settled_88 rfl ?_
            refine aw_getR1 dX8_settled_89 fx_RX8_40 (by first | rfl | assumption) (by first | rfl | assumption) ?_
            refine aw_getI dX8_settled_92 fx_RX8_239 (by first | rfl | assumption) ?_
            refine aw_ireturn dX8_settled_95 rfl (Nat.le_refl _) (Nat.le_refl _) ?_
            exact ⟨am_ri (by rw [if_neg (by omega), if_pos c46]; exact g3), rfl, fin⟩
          · refine aw_tableIn 96 dX8_settled_46 g46a g46b (by rw [c46]; rfl) rfl ?_
            refine aw_aload_n dX8_settled_96 rfl ?_
            refine aw_getR1 dX8_settled_97 fx_RX8_40 (by first | rfl | assumption) (by first | rfl | assumption) ?_
            refine aw_getI dX8_settled_100 fx_RX8_242 (by first | rfl | assumption) ?_
            refine aw_ireturn dX8_settled_103 rfl (Nat.le_refl _) (Nat.le_refl _) ?_
            exact ⟨am_ri (by rw [if_neg (by omega), if_neg (by omega), if_pos c46]; exact g4), rfl, fin⟩
          · refine aw_tableIn 104 dX8_settled_46 g46a g46b (by rw [c46]; rfl) rfl ?_
            refine aw_aload_n dX8_settled_104 rfl ?_
            refine aw_getR1 dX8_settled_105 fx_RX8_34 (by first | rfl | assumption) (by first | rfl | assumption) ?_
            refine aw_v0i dX8_settled_108 vl_RX8_183 (by first | rfl | assumption) (Nat.le_of_ble_eq_true rfl) (Nat.le_of_ble_eq_true rfl) (Nat.le_of_ble_eq_true rfl) (Nat.le_refl _) (Nat.le_refl _) (c_X7_frozenBits sh_21 (by omega) (by omega)) ?_
            refine aw_ireturn dX8_settled_111 rfl (Nat.le_refl _) (Nat.le_refl _) ?_
            exact ⟨am_ri (by rw [if_neg (by omega), if_neg (by omega), if_neg (by omega), if_pos c46, ← g1]; exact fzs_cV (by omega)), rfl, fin⟩
          · refine aw_tableIn 112 dX8_settled_46 g46a g46b (by rw [c46]; rfl) rfl ?_
            refine aw_aload_n dX8_settled_112 rfl ?_
            refine aw_getR1 dX8_settled_113 fx_RX8_34 (by first | rfl | assumption) (by first | rfl | assumption) ?_
            refine aw_v0i dX8_settled_116 vl_RX8_245 (by first | rfl | assumption) (Nat.le_of_ble_eq_true rfl) (Nat.le_of_ble_eq_true rfl) (Nat.le_of_ble_eq_true rfl) (Nat.le_refl _) (Nat.le_refl _) (c_X7_lastGuess sh_21 (by omega) (by omega)) ?_
            refine aw_ireturn dX8_settled_119 rfl (Nat.le_refl _) (Nat.le_refl _) ?_
            exact ⟨am_ri (by rw [if_neg (by omega), if_neg (by omega), if_neg (by omega), if_neg (by omega), if_pos c46, ← g1]; unfold lastG; rw [cVc, cV3 (by omega) (by omega)]), rfl, fin⟩
      · refine aw_ldc (n := -1000001) dX8_settled_19 kc_RX8_80 (by decide) ?_
        refine aw_ireturn dX8_settled_21 rfl (Nat.le_refl _) (Nat.le_refl _) ?_
        rw [if_neg (by omega), if_pos (by omega)]
        exact ⟨rfl, rfl, hC, fun _ _ => rfl⟩
  · refine aw_ldc (n := -1000002) dX8_settled_7 kc_RX8_146 (by decide) ?_
    refine aw_ireturn dX8_settled_9 rfl (Nat.le_refl _) (Nat.le_refl _) ?_
    rw [if_pos (by omega)]
    exact ⟨rfl, rfl, hC, fun _ _ => rfl⟩
set_option maxHeartbeats 1000000 in
theorem c_X8_ends {i : Int} (hC : CS h σ) (hW : WFst σ) (hro : RO h) : Sem M_X8_ends [vR 0, vI i] (TT e q n L) h 0 0 (PC (sp_ends σ i) h (TT e q n L)) := by
  have eV : cV h 16 = s_liv σ := hC.2.2.2.2.1
  have e0 : h 16 0 = s_liv σ 0 0 := by rw [← eV, cVc]
  have hcn := wf_cnt hW.2.2.2.1
  unfold sp_ends
  refine sem_intro (by decide) rfl (Nat.le_of_ble_eq_true rfl) rfl ?_
  refine aw_aload_n dX8_ends_0 rfl ?_
  refine aw_getR1 dX8_ends_1 fx_RX8_30 (by first | rfl | assumption) (by first | rfl | assumption) ?_
  refine aw_iload_n dX8_ends_4 rfl ?_
  refine aw_v1i dX8_ends_5 vl_RX8_162 (by first | rfl | assumption) (Nat.le_of_ble_eq_true rfl) (Nat.le_of_ble_eq_true rfl) (Nat.le_of_ble_eq_true rfl) (Nat.le_refl _) (Nat.le_refl _) (c_X7_holds (by first | assumption | exact sh_16 | exact sh_21)) ?_
  refine aw_ifB_ne 14 dX8_ends_8 rfl (fun c8 => ?_) (fun c8 => ?_)
  · have hL := wf_liv hW.2.2.2.1 (by omega)
    have hok := settles_ok (stop := false) hL.1
    rw [if_neg (by omega)]
    refine aw_aload_n dX8_ends_14 rfl ?_
    refine aw_getR1 dX8_ends_15 fx_RX8_34 (by first | rfl | assumption) (by first | rfl | assumption) ?_
    refine aw_aload_n dX8_ends_18 rfl ?_
    refine aw_getR1 dX8_ends_19 fx_RX8_30 (by first | rfl | assumption) (by first | rfl | assumption) ?_
    refine aw_v1q dX8_ends_22 vl_RX8_133 (by first | rfl | assumption) (Nat.le_of_ble_eq_true rfl) (Nat.le_of_ble_eq_true rfl) (Nat.le_of_ble_eq_true rfl) (Nat.le_refl _) (Nat.le_refl _) (c_X7_takeFrom sh_21 sh_16 (by decide) (by omega)) ?_
    intro v t' h1 hq
    obtain ⟨rfl, rfl, f1, f2⟩ := hq
    rw [eV] at f1
    refine aw_aload_n dX8_ends_25 rfl ?_
    refine aw_getR1 dX8_ends_26 fx_RX8_40 (by first | rfl | assumption) (by first | rfl | assumption) ?_
    refine aw_aload_n dX8_ends_29 rfl ?_
    refine aw_getR1 dX8_ends_30 fx_RX8_34 (by first | rfl | assumption) (by first | rfl | assumption) ?_
    refine aw_iconst dX8_ends_33 (by decide) (by decide) ?_
    refine aw_v2q dX8_ends_34 vl_RX8_157 (by first | rfl | assumption) (Nat.le_of_ble_eq_true rfl) (Nat.le_of_ble_eq_true rfl) (Nat.le_of_ble_eq_true rfl) (Nat.le_refl _) (Nat.le_refl _) (c_X6_bringToRest (stop := false) sh_21 isSe (by decide) (fun j j0 j1 => by rw [f2 _ (by decide)]; exact hro j j0 j1) (by rw [f1]; exact hL.1) rfl) ?_
    intro v t' h2 hq
    obtain ⟨rfl, rfl, g1, g2, g3, g4, g5, g6⟩ := hq
    rw [f1] at g1
    have k16 : ∀ c, c < 21 ∨ 231 < c → h2 c = h c := fun c hc => by rw [g6 c (by omega) (by omega) (by omega), f2 c (by omega)]
    have fin : CS h2 σ ∧ ∀ c, 373 ≤ c → h2 c = h c := ⟨hC.fr (fun c hc => k16 c (by unfold KC at hc; omega)), fun c hc => k16 c (by omega)⟩
    have e21 : h2 21 0 = s_liv σ 0 0 := by rw [← cVc (h := h2), g1, hok.2.2.2.2.2]
    refine aw_aload_n dX8_ends_37 rfl ?_
    refine aw_getR1 dX8_ends_38 fx_RX8_34 (by first | rfl | assumption) (by first | rfl | assumption) ?_
    refine aw_getR1 dX8_ends_41 fx_RX8_201 (by first | rfl | assumption) (by first | rfl | assumption) ?_
    refine aw_iload_n dX8_ends_44 rfl ?_
    refine aw_iaload dX8_ends_45 (by first | rfl | assumption) (by omega) (by omega) ?_
    refine aw_ireturn dX8_ends_46 rfl (Nat.le_refl _) (Nat.le_refl _) ?_
    exact ⟨am_ri (by rw [← g1, cV3 (by omega) (by omega)]), rfl, fin⟩
  · refine aw_ldc (n := -1000001) dX8_ends_11 kc_RX8_80 (by decide) ?_
    refine aw_ireturn dX8_ends_13 rfl (Nat.le_refl _) (Nat.le_refl _) ?_
    rw [if_pos (by omega)]
    exact ⟨rfl, rfl, hC, fun _ _ => rfl⟩
set_option maxHeartbeats 1000000 in
theorem c_X8_image {k : Int} (hC : CS h σ) (hW : WFst σ) : Sem M_X8_image [vR 0, vI k] (TT e q n L) h 0 0 (PC (sp_image σ k) h (TT e q n L)) := by
  have eV : cV h 16 = s_liv σ := hC.2.2.2.2.1
  have e0 : h 16 0 = s_liv σ 0 0 := by rw [← eV, cVc]
  have hcn := wf_cnt hW.2.2.2.1
  unfold sp_image
  refine sem_intro (by decide) rfl (Nat.le_of_ble_eq_true rfl) rfl ?_
  refine aw_iload_n dX8_image_0 rfl ?_
  refine aw_if_lt 13 dX8_image_1 rfl (fun c1 => ?_) (fun c1 => ?_)
  · refine aw_ldc (n := -1000001) dX8_image_13 kc_RX8_80 (by decide) ?_
    refine aw_ireturn dX8_image_15 rfl (Nat.le_refl _) (Nat.le_refl _) ?_
    rw [if_pos (by omega)]
    exact ⟨rfl, rfl, hC, fun _ _ => rfl⟩
  · refine aw_iload_n dX8_image_4 rfl ?_
    refine aw_aload_n dX8_image_5 rfl ?_
    refine aw_getR1 dX8_image_6 fx_RX8_60 (by first | rfl | assumption) (by first | rfl | assumption) ?_
    refine aw_alenR dX8_image_9 (by rfl) (Or.inl rfl) rfl (by decide) ?_
    refine aw_icmp_lt 16 dX8_image_10 rfl (fun c10 => ?_) (fun c10 => ?_)
    · refine aw_aload_n dX8_image_16 rfl ?_
      refine aw_v0i dX8_image_17 vl_RX8_142 (by first | rfl | assumption) (Nat.le_of_ble_eq_true rfl) (Nat.le_of_ble_eq_true rfl) (Nat.le_of_ble_eq_true rfl) (Nat.le_refl _) (Nat.le_refl _) (c_X8_isWithoutSheet) ?_
      refine aw_ifB_eq 26 dX8_image_20 rfl (fun c20 => ?_) (fun c20 => ?_)
      · refine aw_aload_n dX8_image_26 rfl ?_
        refine aw_getR1 dX8_image_27 fx_RX8_60 (by first | rfl | assumption) (by first | rfl | assumption) ?_
        refine aw_iload_n dX8_image_30 rfl ?_
        refine aw_aaload1 dX8_image_31 (by first | rfl | assumption) (by decide) (by omega) (by omega) (rf_img (by omega) (by omega)) ?_
        refine aw_aload_n dX8_image_32 rfl ?_
        refine aw_getR1 dX8_image_33 fx_RX8_30 (by first | rfl | assumption) (by first | rfl | assumption) ?_
        refine aw_v1q dX8_image_36 vl_RX8_133 (sh_img (by omega)).1 (Nat.le_of_ble_eq_true rfl) (Nat.le_of_ble_eq_true rfl) (Nat.le_of_ble_eq_true rfl) (Nat.le_refl _) (Nat.le_refl _) (c_X7_takeFrom (sh_img (by omega)) sh_16 (by omega) (by omega)) ?_
        intro v t' h1 hq
        obtain ⟨rfl, rfl, f1, f2⟩ := hq
        rw [eV] at f1
        refine aw_iconst dX8_image_39 (by decide) (by decide) ?_
        refine aw_ireturn dX8_image_40 rfl (Nat.le_refl _) (Nat.le_refl _) ?_
        rw [if_neg (by omega), if_neg (by omega)]
        refine ⟨rfl, rfl, hC.mkM (fun c hc => f2 c (by omega)) (fun j j0 j1 => ?_), fun c hc => f2 c (by omega)⟩
        show _ = (if j = k then s_liv σ else s_img σ j)
        by_cases ej : j = k
        · rw [if_pos ej, ej]; exact f1
        · rw [if_neg ej, ← hC.2.2.2.2.2.2.1 j j0 j1]; exact f2.cV (by omega)
      · refine aw_ldc (n := -1000002) dX8_image_23 kc_RX8_146 (by decide) ?_
        refine aw_ireturn dX8_image_25 rfl (Nat.le_refl _) (Nat.le_refl _) ?_
        rw [if_neg (by omega), if_pos (by omega)]
        exact ⟨rfl, rfl, hC, fun _ _ => rfl⟩
    · refine aw_ldc (n := -1000001) dX8_image_13 kc_RX8_80 (by decide) ?_
      refine aw_ireturn dX8_image_15 rfl (Nat.le_refl _) (Nat.le_refl _) ?_
      rw [if_pos (by omega)]
      exact ⟨rfl, rfl, hC, fun _ _ => rfl⟩
set_option maxHeartbeats 1000000 in
theorem c_X8_restore {k : Int} (hC : CS h σ) (hW : WFst σ) : Sem M_X8_restore [vR 0, vI k] (TT e q n L) h 0 0 (PC (sp_restore σ k) h (TT e q n L)) := by
  have em := hC.2.2.2.2.2.2.1 k
  have wm := hW.2.2.2.2.2.1 k
  unfold sp_restore
  refine sem_intro (by decide) rfl (Nat.le_of_ble_eq_true rfl) rfl ?_
  refine aw_iload_n dX8_restore_0 rfl ?_
  refine aw_if_lt 13 dX8_restore_1 rfl (fun c1 => ?_) (fun c1 => ?_)
  · refine aw_ldc (n := -1000001) dX8_restore_13 kc_RX8_80 (by decide) ?_
    refine aw_ireturn dX8_restore_15 rfl (Nat.le_refl _) (Nat.le_refl _) ?_
    rw [if_pos (by omega)]
    exact ⟨rfl, rfl, hC, fun _ _ => rfl⟩
  · refine aw_iload_n dX8_restore_4 rfl ?_
    refine aw_aload_n dX8_restore_5 rfl ?_
    refine aw_getR1 dX8_restore_6 fx_RX8_60 (by first | rfl | assumption) (by first | rfl | assumption) ?_
    refine aw_alenR dX8_restore_9 (by rfl) (Or.inl rfl) rfl (by decide) ?_
    refine aw_icmp_lt 16 dX8_restore_10 rfl (fun c10 => ?_) (fun c10 => ?_)
    · have em2 := em (by omega) (by omega)
      have wm2 := wf_cnt (wm (by omega) (by omega))
      have ec : h (361 + 5 * k.toNat) 0 = s_img σ k 0 0 := by rw [← em2, cVc]
      obtain ⟨b, hb⟩ : ∃ b, b = 361 + 5 * k.toNat := ⟨_, rfl⟩
      have hb1 : (TT e q n L).2.2 360 k = some b := by rw [hb]; exact rf_img (by omega) (by omega)
      have hb2 : IsSh (TT e q n L) b := by rw [hb]; exact sh_img (by omega)
      have hb3 := hb2.1
      rw [← hb] at ec em2
      refine aw_aload_n dX8_restore_16 rfl ?_
      refine aw_getR1 dX8_restore_17 fx_RX8_60 (by first | rfl | assumption) (by first | rfl | assumption) ?_
      refine aw_iload_n dX8_restore_20 rfl ?_
      refine aw_aaload1 dX8_restore_21 (by first | rfl | assumption) (by decide) (by omega) (by omega) hb1 ?_
      refine aw_getI dX8_restore_22 fx_RX8_139 (by first | rfl | assumption) ?_
      refine aw_if_ne 31 dX8_restore_25 rfl (fun c25 => ?_) (fun c25 => ?_)
      · refine aw_aload_n dX8_restore_31 rfl ?_
        refine aw_getR1 dX8_restore_32 fx_RX8_30 (by first | rfl | assumption) (by first | rfl | assumption) ?_
        refine aw_aload_n dX8_restore_35 rfl ?_
        refine aw_getR1 dX8_restore_36 fx_RX8_60 (by first | rfl | assumption) (by first | rfl | assumption) ?_
        refine aw_iload_n dX8_restore_39 rfl ?_
        refine aw_aaload1 dX8_restore_40 (by first | rfl | assumption) (by decide) (by omega) (by omega) hb1 ?_
        refine aw_v1q dX8_restore_41 vl_RX8_133 (by first | rfl | assumption) (Nat.le_of_ble_eq_true rfl) (Nat.le_of_ble_eq_true rfl) (Nat.le_of_ble_eq_true rfl) (Nat.le_refl _) (Nat.le_refl _) (c_X7_takeFrom sh_16 hb2 (by omega) (by omega)) ?_
        intro v t' h1 hq
        obtain ⟨rfl, rfl, f1, f2⟩ := hq
        rw [em2] at f1
        refine aw_aload_n dX8_restore_44 rfl ?_
        refine aw_getR1 dX8_restore_45 fx_RX8_56 (by first | rfl | assumption) (by first | rfl | assumption) ?_
        refine aw_v0q dX8_restore_48 vl_RX8_136 (by first | rfl | assumption) (Nat.le_of_ble_eq_true rfl) (Nat.le_of_ble_eq_true rfl) (Nat.le_of_ble_eq_true rfl) (Nat.le_refl _) (Nat.le_refl _) (c_X3_forget (hC.2.2.2.2.2.1.fr (fun c _ _ => f2 c (by omega)))) ?_
        intro v t' h2 hq
        obtain ⟨rfl, rfl, f3, f4⟩ := hq
        refine aw_iconst dX8_restore_51 (by decide) (by decide) ?_
        refine aw_ireturn dX8_restore_52 rfl (Nat.le_refl _) (Nat.le_refl _) ?_
        rw [if_neg (by omega), if_neg (by omega)]
        exact ⟨rfl, rfl, hC.mkI (fun c hc => by rw [f4 c (by omega), f2 c (by omega)]) (by rw [← f1]; exact cV_congr (fun k _ _ => by rw [f4 _ (by omega)]) (fun j k _ _ _ _ => by rw [f4 _ (by omega)])) f3, fun c hc => by rw [f4 c (by omega), f2 c (by omega)]⟩
      · refine aw_ldc (n := -1000002) dX8_restore_28 kc_RX8_146 (by decide) ?_
        refine aw_ireturn dX8_restore_30 rfl (Nat.le_refl _) (Nat.le_refl _) ?_
        rw [if_neg (by omega), if_pos (by omega)]
        exact ⟨rfl, rfl, hC, fun _ _ => rfl⟩
    · refine aw_ldc (n := -1000001) dX8_restore_13 kc_RX8_80 (by decide) ?_
      refine aw_ireturn dX8_restore_15 rfl (Nat.le_refl _) (Nat.le_refl _) ?_
      rw [if_pos (by omega)]
      exact ⟨rfl, rfl, hC, fun _ _ => rfl⟩
theorem c_X8_kind {i : Int} (hC : CS h σ) (hW : WFst σ) : Sem M_X8_kind [vR 0, vI i] (TT e q n L) h 0 0 (PC (sp_kind σ i) h (TT e q n L)) := by
  have eV : cV h 16 = s_liv σ := hC.2.2.2.2.1
  have e0 : h 16 0 = s_liv σ 0 0 := by rw [← eV, cVc]
  have hcn := wf_cnt hW.2.2.2.1
  unfold sp_kind
  refine sem_intro (by decide) rfl (Nat.le_of_ble_eq_true rfl) rfl ?_
  refine aw_aload_n dX8_kind_0 rfl ?_
  refine aw_getR1 dX8_kind_1 fx_RX8_30 (by first | rfl | assumption) (by first | rfl | assumption) ?_
  refine aw_iload_n dX8_kind_4 rfl ?_
  refine aw_v1i dX8_kind_5 vl_RX8_162 (by first | rfl | assumption) (Nat.le_of_ble_eq_true rfl) (Nat.le_of_ble_eq_true rfl) (Nat.le_of_ble_eq_true rfl) (Nat.le_refl _) (Nat.le_refl _) (c_X7_holds (by first | assumption | exact sh_16 | exact sh_21)) ?_
  refine aw_ifB_eq 23 dX8_kind_8 rfl (fun c8 => ?_) (fun c8 => ?_)
  · refine aw_ldc (n := -1000001) dX8_kind_23 kc_RX8_80 (by decide) ?_
    refine aw_ireturn dX8_kind_25 rfl (Nat.le_refl _) (Nat.le_refl _) ?_
    rw [if_pos (by omega)]
    exact ⟨rfl, rfl, hC, fun _ _ => rfl⟩
  · refine aw_aload_n dX8_kind_11 rfl ?_
    refine aw_getR1 dX8_kind_12 fx_RX8_30 (by first | rfl | assumption) (by first | rfl | assumption) ?_
    refine aw_getR1 dX8_kind_15 fx_RX8_165 (by first | rfl | assumption) (by first | rfl | assumption) ?_
    refine aw_iload_n dX8_kind_18 rfl ?_
    refine aw_iaload dX8_kind_19 (by first | rfl | assumption) (by omega) (by omega) ?_
    refine aw_goto 25 dX8_kind_20 rfl ?_
    refine aw_ireturn dX8_kind_25 rfl (Nat.le_refl _) (Nat.le_refl _) ?_
    rw [if_neg (by omega)]
    exact ⟨am_ri (by rw [← eV, cV1 c8.1 c8.2]), rfl, hC, fun _ _ => rfl⟩
theorem c_X8_as {i k : Int} (hC : CS h σ) (hW : WFst σ) : Sem M_X8_as [vR 0, vI i, vI k] (TT e q n L) h 0 0 (PC (sp_as σ i k) h (TT e q n L)) := by
  have eV : cV h 16 = s_liv σ := hC.2.2.2.2.1
  have e0 : h 16 0 = s_liv σ 0 0 := by rw [← eV, cVc]
  have hcn := wf_cnt hW.2.2.2.1
  have k1 : 0 ≤ i ∧ i < h 16 0 → h (16 + 1) i = s_liv σ 1 i := fun z => by rw [← eV, cV1 z.1 z.2]
  unfold sp_as
  refine sem_intro (by decide) rfl (Nat.le_of_ble_eq_true rfl) rfl ?_
  refine aw_aload_n dX8_as_0 rfl ?_
  refine aw_getR1 dX8_as_1 fx_RX8_30 (by first | rfl | assumption) (by first | rfl | assumption) ?_
  refine aw_iload_n dX8_as_4 rfl ?_
  refine aw_v1i dX8_as_5 vl_RX8_162 (by first | rfl | assumption) (Nat.le_of_ble_eq_true rfl) (Nat.le_of_ble_eq_true rfl) (Nat.le_of_ble_eq_true rfl) (Nat.le_refl _) (Nat.le_refl _) (c_X7_holds (by first | assumption | exact sh_16 | exact sh_21)) ?_
  refine aw_ifB_eq 20 dX8_as_8 rfl (fun c8 => ?_) (fun c8 => ?_)
  · refine aw_ldc (n := -1000001) dX8_as_20 kc_RX8_80 (by decide) ?_
    refine aw_ireturn dX8_as_22 rfl (Nat.le_refl _) (Nat.le_refl _) ?_
    rw [if_pos (by omega)]
    exact ⟨rfl, rfl, hC, fun _ _ => rfl⟩
  · refine aw_iload_n dX8_as_11 rfl ?_
    refine aw_if_lt 20 dX8_as_12 rfl (fun c12 => ?_) (fun c12 => ?_)
    · refine aw_ldc (n := -1000001) dX8_as_20 kc_RX8_80 (by decide) ?_
      refine aw_ireturn dX8_as_22 rfl (Nat.le_refl _) (Nat.le_refl _) ?_
      rw [if_pos (by omega)]
      exact ⟨rfl, rfl, hC, fun _ _ => rfl⟩
    · refine aw_iload_n dX8_as_15 rfl ?_
      refine aw_iconst dX8_as_16 (by decide) (by decide) ?_
      refine aw_icmp_le 23 dX8_as_17 rfl (fun c17 => ?_) (fun c17 => ?_)
      · have k2 := k1 c8
        rw [if_neg (by omega)]
        refine aw_aload_n dX8_as_23 rfl ?_
        refine aw_getR1 dX8_as_24 fx_RX8_30 (by first | rfl | assumption) (by first | rfl | assumption) ?_
        refine aw_iload_n dX8_as_27 rfl ?_
        refine aw_iload_n dX8_as_28 rfl ?_
        refine aw_v2i dX8_as_29 vl_RX8_299 (by first | rfl | assumption) (Nat.le_of_ble_eq_true rfl) (Nat.le_of_ble_eq_true rfl) (Nat.le_of_ble_eq_true rfl) (Nat.le_refl _) (Nat.le_refl _) (c_X7_isOfKind sh_16 (by omega) (by omega)) ?_
        refine aw_ifB_eq 43 dX8_as_32 rfl (fun c32 => ?_) (fun c32 => ?_)
        · refine aw_aload_n dX8_as_43 rfl ?_
          refine aw_iconst dX8_as_44 (by decide) (by decide) ?_
          refine aw_v1i dX8_as_45 vl_RX8_81 (by first | rfl | assumption) (Nat.le_of_ble_eq_true rfl) (Nat.le_of_ble_eq_true rfl) (Nat.le_of_ble_eq_true rfl) (Nat.le_refl _) (Nat.le_refl _) (c_X8_found (by decide) (by decide)) ?_
          refine aw_ireturn dX8_as_48 rfl (Nat.le_refl _) (Nat.le_refl _) ?_
          rw [if_neg (by omega)]
          exact ⟨rfl, rfl, hC.upF, fun c hc => am_up_ne (by omega)⟩
        · refine aw_aload_n dX8_as_35 rfl ?_
          refine aw_iload_n dX8_as_36 rfl ?_
          refine aw_v1i dX8_as_37 vl_RX8_89 (by first | rfl | assumption) (Nat.le_of_ble_eq_true rfl) (Nat.le_of_ble_eq_true rfl) (Nat.le_of_ble_eq_true rfl) (Nat.le_refl _) (Nat.le_refl _) (c_X8_sound) ?_
          refine aw_goto 48 dX8_as_40 rfl ?_
          refine aw_ireturn dX8_as_48 rfl (Nat.le_refl _) (Nat.le_refl _) ?_
          rw [if_pos (by omega)]
          exact ⟨rfl, rfl, hC.upF, fun c hc => am_up_ne (by omega)⟩
      · refine aw_ldc (n := -1000001) dX8_as_20 kc_RX8_80 (by decide) ?_
        refine aw_ireturn dX8_as_22 rfl (Nat.le_refl _) (Nat.le_refl _) ?_
        rw [if_pos (by omega)]
        exact ⟨rfl, rfl, hC, fun _ _ => rfl⟩
theorem c_X8_trace {i : Int} (hC : CS h σ) (hW : WFst σ) : Sem M_X8_trace [vR 0, vI i] (TT e q n L) h 0 0 (PC (sp_trace σ i) h (TT e q n L)) := by
  have ht := hC.2.2.2.2.2.2.2
  have hw := hW.2.2.2.2.2.2
  unfold sp_trace
  refine sem_intro (by decide) rfl (Nat.le_of_ble_eq_true rfl) rfl ?_
  refine aw_iload_n dX8_trace_0 rfl ?_
  refine aw_if_lt 27 dX8_trace_1 rfl (fun c1 => ?_) (fun c1 => ?_)
  · refine aw_ldc_w (n := -1000000) dX8_trace_27 kc_RX8_323 (by decide) ?_
    refine aw_ireturn dX8_trace_30 rfl (Nat.le_refl _) (Nat.le_refl _) ?_
    first | (rw [if_neg (by omega)]; exact ⟨rfl, rfl, hC, fun _ _ => rfl⟩) | (rw [if_pos (by omega)]; exact ⟨am_ri (ht.2 i (by omega) (by omega)), rfl, hC, fun _ _ => rfl⟩)
  · refine aw_iload_n dX8_trace_4 rfl ?_
    refine aw_aload_n dX8_trace_5 rfl ?_
    refine aw_getR1 dX8_trace_6 fx_RX8_69 (by first | rfl | assumption) (by first | rfl | assumption) ?_
    refine aw_getI dX8_trace_9 fx_RX8_317 (by first | rfl | assumption) ?_
    refine aw_icmp_ge 27 dX8_trace_12 rfl (fun c12 => ?_) (fun c12 => ?_)
    · refine aw_ldc_w (n := -1000000) dX8_trace_27 kc_RX8_323 (by decide) ?_
      refine aw_ireturn dX8_trace_30 rfl (Nat.le_refl _) (Nat.le_refl _) ?_
      first | (rw [if_neg (by omega)]; exact ⟨rfl, rfl, hC, fun _ _ => rfl⟩) | (rw [if_pos (by omega)]; exact ⟨am_ri (ht.2 i (by omega) (by omega)), rfl, hC, fun _ _ => rfl⟩)
    · refine aw_aload_n dX8_trace_15 rfl ?_
      refine aw_getR1 dX8_trace_16 fx_RX8_69 (by first | rfl | assumption) (by first | rfl | assumption) ?_
      refine aw_getR1 dX8_trace_19 fx_RX8_320 (by first | rfl | assumption) (by first | rfl | assumption) ?_
      refine aw_iload_n dX8_trace_22 rfl ?_
      refine aw_iaload dX8_trace_23 (by first | rfl | assumption) (by omega) (by omega) ?_
      refine aw_goto 30 dX8_trace_24 rfl ?_
      refine aw_ireturn dX8_trace_30 rfl (Nat.le_refl _) (Nat.le_refl _) ?_
      first | (rw [if_neg (by omega)]; exact ⟨rfl, rfl, hC, fun _ _ => rfl⟩) | (rw [if_pos (by omega)]; exact ⟨am_ri (ht.2 i (by omega) (by omega)), rfl, hC, fun _ _ => rfl⟩)
set_option maxHeartbeats 1000000 in
theorem c_X8_ask {i w : Int} (hC : CS h σ) (hW : WFst σ) (hro : RO h) : Sem M_X8_ask [vR 0, vI i, vI w] (TT e q n L) h 0 0 (PC (sp_ask σ i w) h (TT e q n L)) := by
  have eV : cV h 16 = s_liv σ := hC.2.2.2.2.1
  have e0 : h 16 0 = s_liv σ 0 0 := by rw [← eV, cVc]
  have hcn := wf_cnt hW.2.2.2.1
  have k1 : 0 ≤ i ∧ i < h 16 0 → h (16 + 1) i = s_liv σ 1 i := fun z => by rw [← eV, cV1 z.1 z.2]
  unfold sp_ask
  refine sem_intro (by decide) rfl (Nat.le_of_ble_eq_true rfl) rfl ?_
  refine aw_aload_n dX8_ask_0 rfl ?_
  refine aw_getR1 dX8_ask_1 fx_RX8_30 (by first | rfl | assumption) (by first | rfl | assumption) ?_
  refine aw_iload_n dX8_ask_4 rfl ?_
  refine aw_v1i dX8_ask_5 vl_RX8_162 (by first | rfl | assumption) (Nat.le_of_ble_eq_true rfl) (Nat.le_of_ble_eq_true rfl) (Nat.le_of_ble_eq_true rfl) (Nat.le_refl _) (Nat.le_refl _) (c_X7_holds (by first | assumption | exact sh_16 | exact sh_21)) ?_
  refine aw_ifB_eq 20 dX8_ask_8 rfl (fun c8 => ?_) (fun c8 => ?_)
  · refine aw_ldc (n := -1000001) dX8_ask_20 kc_RX8_80 (by decide) ?_
    refine aw_ireturn dX8_ask_22 rfl (Nat.le_refl _) (Nat.le_refl _) ?_
    rw [if_pos (by omega)]
    exact ⟨rfl, rfl, hC, fun _ _ => rfl⟩
  · refine aw_iload_n dX8_ask_11 rfl ?_
    refine aw_if_lt 20 dX8_ask_12 rfl (fun c12 => ?_) (fun c12 => ?_)
    · refine aw_ldc (n := -1000001) dX8_ask_20 kc_RX8_80 (by decide) ?_
      refine aw_ireturn dX8_ask_22 rfl (Nat.le_refl _) (Nat.le_refl _) ?_
      rw [if_pos (by omega)]
      exact ⟨rfl, rfl, hC, fun _ _ => rfl⟩
    · refine aw_iload_n dX8_ask_15 rfl ?_
      refine aw_iconst dX8_ask_16 (by decide) (by decide) ?_
      refine aw_icmp_le 23 dX8_ask_17 rfl (fun c17 => ?_) (fun c17 => ?_)
      · have k2 := k1 c8
        have hL := wf_liv hW.2.2.2.1 (by omega)
        rw [if_neg (by omega)]
        unfold askv askb
        refine aw_aload_n dX8_ask_23 rfl ?_
        refine aw_getR1 dX8_ask_24 fx_RX8_69 (by first | rfl | assumption) (by first | rfl | assumption) ?_
        refine aw_v0q dX8_ask_27 vl_RX8_302 (by first | rfl | assumption) (Nat.le_of_ble_eq_true rfl) (Nat.le_of_ble_eq_true rfl) (Nat.le_of_ble_eq_true rfl) (Nat.le_refl _) (Nat.le_refl _) (c_X0_clear (T := s_trc σ)) ?_
        intro v t' h1 hq
        obtain ⟨rfl, rfl, f1, f2⟩ := hq
        have f3 : ∀ c, c ≠ 371 → c ≠ 372 → h1 c = h c := fun c d1 _ => f2 c d1
        have eV1 : cV h1 16 = s_liv σ := by rw [← eV]; exact cV_16 f3
        have hV1 : WFv (cV h1 16) := by rw [eV1]; exact hL.1
        have hr1 := RO_16 f3 hro
        have i1 : i < h1 16 0 := by rw [f2 16 (by decide)]; omega
        have k3 : h1 (16 + 1) i = s_liv σ 1 i := by rw [f2 _ (by decide)]; exact k2
        refine aw_aload_n dX8_ask_30 rfl ?_
        refine aw_getR1 dX8_ask_31 fx_RX8_30 (by first | rfl | assumption) (by first | rfl | assumption) ?_
        refine aw_iload_n dX8_ask_34 rfl ?_
        refine aw_v1i dX8_ask_35 vl_RX8_226 (by first | rfl | assumption) (Nat.le_of_ble_eq_true rfl) (Nat.le_of_ble_eq_true rfl) (Nat.le_of_ble_eq_true rfl) (Nat.le_refl _) (Nat.le_refl _) (c_X7_isReference sh_16 (by omega) (by omega)) ?_
        refine aw_ifB_eq 65 dX8_ask_38 rfl (fun c38 => ?_) (fun c38 => ?_)
        · refine aw_iload_n dX8_ask_65 rfl ?_
          refine aw_if_ne 80 dX8_ask_66 rfl (fun c66 => ?_) (fun c66 => ?_)
          · refine aw_aload_n dX8_ask_80 rfl ?_
            refine aw_getR1 dX8_ask_81 fx_RX8_69 (by first | rfl | assumption) (by first | rfl | assumption) ?_
            refine aw_iload_n dX8_ask_84 rfl ?_
            refine aw_v1q dX8_ask_85 vl_RX8_314 (by first | rfl | assumption) (Nat.le_of_ble_eq_true rfl) (Nat.le_of_ble_eq_true rfl) (Nat.le_of_ble_eq_true rfl) (Nat.le_refl _) (Nat.le_refl _) (c_X0_markOfWord f1 hr1 hV1 c8.1 i1) ?_
            intro v t' h4 hq
            obtain ⟨rfl, rfl, f7, f8⟩ := hq
            refine aw_ireturn dX8_ask_88 rfl (Nat.le_refl _) (Nat.le_refl _) ?_
            rw [eV1] at f7 ⊢
            first | (rw [if_pos (by omega), if_pos (by omega), if_pos (by omega), if_pos (by omega)]; exact ⟨rfl, rfl, hC.mkQ (fun c hc => by rw [f8 c (by omega) (by omega), f2 c (by omega)]) f7, fun c hc => by rw [f8 c (by omega) (by omega), f2 c (by omega)]⟩) | (rw [if_pos (by omega), if_neg (by omega), if_pos (by omega), if_neg (by omega)]; exact ⟨rfl, rfl, hC.mkQ (fun c hc => by rw [f8 c (by omega) (by omega), f2 c (by omega)]) f7, fun c hc => by rw [f8 c (by omega) (by omega), f2 c (by omega)]⟩) | (rw [if_neg (by omega), if_pos (by omega), if_neg (by omega), if_pos (by omega)]; exact ⟨rfl, rfl, hC.mkQ (fun c hc => by rw [f8 c (by omega) (by omega), f2 c (by omega)]) f7, fun c hc => by rw [f8 c (by omega) (by omega), f2 c (by omega)]⟩) | (rw [if_neg (by omega), if_neg (by omega), if_neg (by omega), if_neg (by omega)]; exact ⟨rfl, rfl, hC.mkQ (fun c hc => by rw [f8 c (by omega) (by omega), f2 c (by omega)]) f7, fun c hc => by rw [f8 c (by omega) (by omega), f2 c (by omega)]⟩)
          · refine aw_aload_n dX8_ask_69 rfl ?_
            refine aw_getR1 dX8_ask_70 fx_RX8_69 (by first | rfl | assumption) (by first | rfl | assumption) ?_
            refine aw_iload_n dX8_ask_73 rfl ?_
            refine aw_v1q dX8_ask_74 vl_RX8_311 (by first | rfl | assumption) (Nat.le_of_ble_eq_true rfl) (Nat.le_of_ble_eq_true rfl) (Nat.le_of_ble_eq_true rfl) (Nat.le_refl _) (Nat.le_refl _) (c_X0_sizeOfWord f1 hr1 hV1 c8.1 i1) ?_
            intro v t' h4 hq
            obtain ⟨rfl, rfl, f7, f8⟩ := hq
            refine aw_goto 88 dX8_ask_77 rfl ?_
            refine aw_ireturn dX8_ask_88 rfl (Nat.le_refl _) (Nat.le_refl _) ?_
            rw [eV1] at f7 ⊢
            first | (rw [if_pos (by omega), if_pos (by omega), if_pos (by omega), if_pos (by omega)]; exact ⟨rfl, rfl, hC.mkQ (fun c hc => by rw [f8 c (by omega) (by omega), f2 c (by omega)]) f7, fun c hc => by rw [f8 c (by omega) (by omega), f2 c (by omega)]⟩) | (rw [if_pos (by omega), if_neg (by omega), if_pos (by omega), if_neg (by omega)]; exact ⟨rfl, rfl, hC.mkQ (fun c hc => by rw [f8 c (by omega) (by omega), f2 c (by omega)]) f7, fun c hc => by rw [f8 c (by omega) (by omega), f2 c (by omega)]⟩) | (rw [if_neg (by omega), if_pos (by omega), if_neg (by omega), if_pos (by omega)]; exact ⟨rfl, rfl, hC.mkQ (fun c hc => by rw [f8 c (by omega) (by omega), f2 c (by omega)]) f7, fun c hc => by rw [f8 c (by omega) (by omega), f2 c (by omega)]⟩) | (rw [if_neg (by omega), if_neg (by omega), if_neg (by omega), if_neg (by omega)]; exact ⟨rfl, rfl, hC.mkQ (fun c hc => by rw [f8 c (by omega) (by omega), f2 c (by omega)]) f7, fun c hc => by rw [f8 c (by omega) (by omega), f2 c (by omega)]⟩)
        · refine aw_iload_n dX8_ask_41 rfl ?_
          refine aw_if_ne 56 dX8_ask_42 rfl (fun c42 => ?_) (fun c42 => ?_)
          · refine aw_aload_n dX8_ask_56 rfl ?_
            refine aw_getR1 dX8_ask_57 fx_RX8_69 (by first | rfl | assumption) (by first | rfl | assumption) ?_
            refine aw_iload_n dX8_ask_60 rfl ?_
            refine aw_v1q dX8_ask_61 vl_RX8_308 (by first | rfl | assumption) (Nat.le_of_ble_eq_true rfl) (Nat.le_of_ble_eq_true rfl) (Nat.le_of_ble_eq_true rfl) (Nat.le_refl _) (Nat.le_refl _) (c_X0_markOfReference f1 hV1 c8.1 i1) ?_
            intro v t' h4 hq
            obtain ⟨rfl, rfl, f7, f8⟩ := hq
            refine aw_ireturn dX8_ask_64 rfl (Nat.le_refl _) (Nat.le_refl _) ?_
            rw [eV1] at f7 ⊢
            first | (rw [if_pos (by omega), if_pos (by omega), if_pos (by omega), if_pos (by omega)]; exact ⟨rfl, rfl, hC.mkQ (fun c hc => by rw [f8 c (by omega) (by omega), f2 c (by omega)]) f7, fun c hc => by rw [f8 c (by omega) (by omega), f2 c (by omega)]⟩) | (rw [if_pos (by omega), if_neg (by omega), if_pos (by omega), if_neg (by omega)]; exact ⟨rfl, rfl, hC.mkQ (fun c hc => by rw [f8 c (by omega) (by omega), f2 c (by omega)]) f7, fun c hc => by rw [f8 c (by omega) (by omega), f2 c (by omega)]⟩) | (rw [if_neg (by omega), if_pos (by omega), if_neg (by omega), if_pos (by omega)]; exact ⟨rfl, rfl, hC.mkQ (fun c hc => by rw [f8 c (by omega) (by omega), f2 c (by omega)]) f7, fun c hc => by rw [f8 c (by omega) (by omega), f2 c (by omega)]⟩) | (rw [if_neg (by omega), if_neg (by omega), if_neg (by omega), if_neg (by omega)]; exact ⟨rfl, rfl, hC.mkQ (fun c hc => by rw [f8 c (by omega) (by omega), f2 c (by omega)]) f7, fun c hc => by rw [f8 c (by omega) (by omega), f2 c (by omega)]⟩)
          · refine aw_aload_n dX8_ask_45 rfl ?_
            refine aw_getR1 dX8_ask_46 fx_RX8_69 (by first | rfl | assumption) (by first | rfl | assumption) ?_
            refine aw_iload_n dX8_ask_49 rfl ?_
            refine aw_v1q dX8_ask_50 vl_RX8_305 (by first | rfl | assumption) (Nat.le_of_ble_eq_true rfl) (Nat.le_of_ble_eq_true rfl) (Nat.le_of_ble_eq_true rfl) (Nat.le_refl _) (Nat.le_refl _) (c_X0_sizeOfReference f1 hr1 hV1 c8.1 i1) ?_
            intro v t' h4 hq
            obtain ⟨rfl, rfl, f7, f8⟩ := hq
            refine aw_goto 64 dX8_ask_53 rfl ?_
            refine aw_ireturn dX8_ask_64 rfl (Nat.le_refl _) (Nat.le_refl _) ?_
            rw [eV1] at f7 ⊢
            first | (rw [if_pos (by omega), if_pos (by omega), if_pos (by omega), if_pos (by omega)]; exact ⟨rfl, rfl, hC.mkQ (fun c hc => by rw [f8 c (by omega) (by omega), f2 c (by omega)]) f7, fun c hc => by rw [f8 c (by omega) (by omega), f2 c (by omega)]⟩) | (rw [if_pos (by omega), if_neg (by omega), if_pos (by omega), if_neg (by omega)]; exact ⟨rfl, rfl, hC.mkQ (fun c hc => by rw [f8 c (by omega) (by omega), f2 c (by omega)]) f7, fun c hc => by rw [f8 c (by omega) (by omega), f2 c (by omega)]⟩) | (rw [if_neg (by omega), if_pos (by omega), if_neg (by omega), if_pos (by omega)]; exact ⟨rfl, rfl, hC.mkQ (fun c hc => by rw [f8 c (by omega) (by omega), f2 c (by omega)]) f7, fun c hc => by rw [f8 c (by omega) (by omega), f2 c (by omega)]⟩) | (rw [if_neg (by omega), if_neg (by omega), if_neg (by omega), if_neg (by omega)]; exact ⟨rfl, rfl, hC.mkQ (fun c hc => by rw [f8 c (by omega) (by omega), f2 c (by omega)]) f7, fun c hc => by rw [f8 c (by omega) (by omega), f2 c (by omega)]⟩)
      · refine aw_ldc (n := -1000001) dX8_ask_20 kc_RX8_80 (by decide) ?_
        refine aw_ireturn dX8_ask_22 rfl (Nat.le_refl _) (Nat.le_refl _) ?_
        rw [if_pos (by omega)]
        exact ⟨rfl, rfl, hC, fun _ _ => rfl⟩
set_option maxHeartbeats 1000000 in
theorem c_X8_count {w : Int} (hC : CS h σ) (hW : WFst σ) : Sem M_X8_count [vR 0, vI w] (TT e q n L) h 0 0 (PC (sp_count σ w) h (TT e q n L)) := by
  have eV : cV h 16 = s_liv σ := hC.2.2.2.2.1
  have e0 : h 16 0 = s_liv σ 0 0 := by rw [← eV, cVc]
  have e1 : h 16 1 = s_liv σ 0 1 := by rw [← eV, cVw]
  have e2 : h 16 2 = s_liv σ 0 2 := by rw [← eV, cVl]
  have e3 : h 16 3 = s_liv σ 0 3 := by rw [← eV, cVf]
  have e4 : h 16 4 = s_liv σ 0 4 := by rw [← eV, cVr]
  have hcn := wf_cnt hW.2.2.2.1
  have ep := hC.2.2.2.2.2.1.1
  have et := hC.2.2.1.1
  have er : cntR (h 2) 8 = cntR (s_lan σ) 8 := cntR_congr 8 (fun i hi => (hC.1 i (by omega) (by omega)).1)
  have ef : bset (fun i => decide (0 < h (16 + 4) i)) (h 16 0).toNat = fzs (s_liv σ) := by rw [← eV]; exact fzs_cV (by omega)
  unfold sp_count
  refine sem_intro (by decide) rfl (Nat.le_of_ble_eq_true rfl) rfl ?_
  refine aw_iload_n dX8_count_0 rfl ?_
  refine aw_table 121 dX8_count_1 rfl (fun c1 => ?_) (fun g1a g1b => ?_)
  · refine aw_ldc (n := -1000001) dX8_count_121 kc_RX8_80 (by decide) ?_
    refine aw_ireturn dX8_count_123 rfl (Nat.le_refl _) (Nat.le_refl _) ?_
    refine ⟨am_ri ?_, rfl, hC, fun _ _ => rfl⟩
    show _ = (if _ then _ else _)
    first | (rw [if_pos (by omega)]; assumption) | (rw [if_neg (by omega), if_pos (by omega)]; assumption) | (rw [if_neg (by omega), if_neg (by omega), if_pos (by omega)]; assumption) | (rw [if_neg (by omega), if_neg (by omega), if_neg (by omega), if_pos (by omega)]; assumption) | (rw [if_neg (by omega), if_neg (by omega), if_neg (by omega), if_neg (by omega), if_pos (by omega)]; assumption) | (rw [if_neg (by omega), if_neg (by omega), if_neg (by omega), if_neg (by omega), if_neg (by omega), if_pos (by omega)]; assumption) | (rw [if_neg (by omega), if_neg (by omega), if_neg (by omega), if_neg (by omega), if_neg (by omega), if_neg (by omega), if_pos (by omega)]; assumption) | (rw [if_neg (by omega), if_neg (by omega), if_neg (by omega), if_neg (by omega), if_neg (by omega), if_neg (by omega), if_neg (by omega), if_pos (by omega)]; assumption) | (rw [if_neg (by omega), if_neg (by omega), if_neg (by omega), if_neg (by omega), if_neg (by omega), if_neg (by omega), if_neg (by omega), if_neg (by omega), if_pos (by omega)]; assumption) | (rw [if_neg (by omega), if_neg (by omega), if_neg (by omega), if_neg (by omega), if_neg (by omega), if_neg (by omega), if_neg (by omega), if_neg (by omega), if_neg (by omega)]; done)
  · rcases tcs_0_8 g1a g1b with c1 | c1 | c1 | c1 | c1 | c1 | c1 | c1 | c1
    · refine aw_tableIn 52 dX8_count_1 g1a g1b (by rw [c1]; rfl) rfl ?_
      refine aw_aload_n dX8_count_52 rfl ?_
      refine aw_getR1 dX8_count_53 fx_RX8_10 (by first | rfl | assumption) (by first | rfl | assumption) ?_
      refine aw_v0i dX8_count_56 vl_RX8_324 (by first | rfl | assumption) (Nat.le_of_ble_eq_true rfl) (Nat.le_of_ble_eq_true rfl) (Nat.le_of_ble_eq_true rfl) (Nat.le_refl _) (Nat.le_refl _) (c_X5_present) ?_
      refine aw_ireturn dX8_count_59 rfl (Nat.le_refl _) (Nat.le_refl _) ?_
      refine ⟨am_ri ?_, rfl, hC, fun _ _ => rfl⟩
      show _ = (if _ then _ else _)
      first | (rw [if_pos (by omega)]; assumption) | (rw [if_neg (by omega), if_pos (by omega)]; assumption) | (rw [if_neg (by omega), if_neg (by omega), if_pos (by omega)]; assumption) | (rw [if_neg (by omega), if_neg (by omega), if_neg (by omega), if_pos (by omega)]; assumption) | (rw [if_neg (by omega), if_neg (by omega), if_neg (by omega), if_neg (by omega), if_pos (by omega)]; assumption) | (rw [if_neg (by omega), if_neg (by omega), if_neg (by omega), if_neg (by omega), if_neg (by omega), if_pos (by omega)]; assumption) | (rw [if_neg (by omega), if_neg (by omega), if_neg (by omega), if_neg (by omega), if_neg (by omega), if_neg (by omega), if_pos (by omega)]; assumption) | (rw [if_neg (by omega), if_neg (by omega), if_neg (by omega), if_neg (by omega), if_neg (by omega), if_neg (by omega), if_neg (by omega), if_pos (by omega)]; assumption) | (rw [if_neg (by omega), if_neg (by omega), if_neg (by omega), if_neg (by omega), if_neg (by omega), if_neg (by omega), if_neg (by omega), if_neg (by omega), if_pos (by omega)]; assumption) | (rw [if_neg (by omega), if_neg (by omega), if_neg (by omega), if_neg (by omega), if_neg (by omega), if_neg (by omega), if_neg (by omega), if_neg (by omega), if_neg (by omega)]; done)
    · refine aw_tableIn 60 dX8_count_1 g1a g1b (by rw [c1]; rfl) rfl ?_
      refine aw_aload_n dX8_count_60 rfl ?_
      refine aw_getR1 dX8_count_61 fx_RX8_30 (by first | rfl | assumption) (by first | rfl | assumption) ?_
      refine aw_getI dX8_count_64 fx_RX8_139 (by first | rfl | assumption) ?_
      refine aw_ireturn dX8_count_67 rfl (Nat.le_refl _) (Nat.le_refl _) ?_
      refine ⟨am_ri ?_, rfl, hC, fun _ _ => rfl⟩
      show _ = (if _ then _ else _)
      first | (rw [if_pos (by omega)]; assumption) | (rw [if_neg (by omega), if_pos (by omega)]; assumption) | (rw [if_neg (by omega), if_neg (by omega), if_pos (by omega)]; assumption) | (rw [if_neg (by omega), if_neg (by omega), if_neg (by omega), if_pos (by omega)]; assumption) | (rw [if_neg (by omega), if_neg (by omega), if_neg (by omega), if_neg (by omega), if_pos (by omega)]; assumption) | (rw [if_neg (by omega), if_neg (by omega), if_neg (by omega), if_neg (by omega), if_neg (by omega), if_pos (by omega)]; assumption) | (rw [if_neg (by omega), if_neg (by omega), if_neg (by omega), if_neg (by omega), if_neg (by omega), if_neg (by omega), if_pos (by omega)]; assumption) | (rw [if_neg (by omega), if_neg (by omega), if_neg (by omega), if_neg (by omega), if_neg (by omega), if_neg (by omega), if_neg (by omega), if_pos (by omega)]; assumption) | (rw [if_neg (by omega), if_neg (by omega), if_neg (by omega), if_neg (by omega), if_neg (by omega), if_neg (by omega), if_neg (by omega), if_neg (by omega), if_pos (by omega)]; assumption) | (rw [if_neg (by omega), if_neg (by omega), if_neg (by omega), if_neg (by omega), if_neg (by omega), if_neg (by omega), if_neg (by omega), if_neg (by omega), if_neg (by omega)]; done)
    · refine aw_tableIn 68 dX8_count_1 g1a g1b (by rw [c1]; rfl) rfl ?_
      refine aw_aload_n dX8_count_68 rfl ?_
      refine aw_getR1 dX8_count_69 fx_RX8_30 (by first | rfl | assumption) (by first | rfl | assumption) ?_
      refine aw_getI dX8_count_72 fx_RX8_327 (by first | rfl | assumption) ?_
      refine aw_ireturn dX8_count_75 rfl (Nat.le_refl _) (Nat.le_refl _) ?_
      refine ⟨am_ri ?_, rfl, hC, fun _ _ => rfl⟩
      show _ = (if _ then _ else _)
      first | (rw [if_pos (by omega)]; assumption) | (rw [if_neg (by omega), if_pos (by omega)]; assumption) | (rw [if_neg (by omega), if_neg (by omega), if_pos (by omega)]; assumption) | (rw [if_neg (by omega), if_neg (by omega), if_neg (by omega), if_pos (by omega)]; assumption) | (rw [if_neg (by omega), if_neg (by omega), if_neg (by omega), if_neg (by omega), if_pos (by omega)]; assumption) | (rw [if_neg (by omega), if_neg (by omega), if_neg (by omega), if_neg (by omega), if_neg (by omega), if_pos (by omega)]; assumption) | (rw [if_neg (by omega), if_neg (by omega), if_neg (by omega), if_neg (by omega), if_neg (by omega), if_neg (by omega), if_pos (by omega)]; assumption) | (rw [if_neg (by omega), if_neg (by omega), if_neg (by omega), if_neg (by omega), if_neg (by omega), if_neg (by omega), if_neg (by omega), if_pos (by omega)]; assumption) | (rw [if_neg (by omega), if_neg (by omega), if_neg (by omega), if_neg (by omega), if_neg (by omega), if_neg (by omega), if_neg (by omega), if_neg (by omega), if_pos (by omega)]; assumption) | (rw [if_neg (by omega), if_neg (by omega), if_neg (by omega), if_neg (by omega), if_neg (by omega), if_neg (by omega), if_neg (by omega), if_neg (by omega), if_neg (by omega)]; done)
    · refine aw_tableIn 76 dX8_count_1 g1a g1b (by rw [c1]; rfl) rfl ?_
      refine aw_aload_n dX8_count_76 rfl ?_
      refine aw_getR1 dX8_count_77 fx_RX8_30 (by first | rfl | assumption) (by first | rfl | assumption) ?_
      refine aw_getI dX8_count_80 fx_RX8_330 (by first | rfl | assumption) ?_
      refine aw_ireturn dX8_count_83 rfl (Nat.le_refl _) (Nat.le_refl _) ?_
      refine ⟨am_ri ?_, rfl, hC, fun _ _ => rfl⟩
      show _ = (if _ then _ else _)
      first | (rw [if_pos (by omega)]; assumption) | (rw [if_neg (by omega), if_pos (by omega)]; assumption) | (rw [if_neg (by omega), if_neg (by omega), if_pos (by omega)]; assumption) | (rw [if_neg (by omega), if_neg (by omega), if_neg (by omega), if_pos (by omega)]; assumption) | (rw [if_neg (by omega), if_neg (by omega), if_neg (by omega), if_neg (by omega), if_pos (by omega)]; assumption) | (rw [if_neg (by omega), if_neg (by omega), if_neg (by omega), if_neg (by omega), if_neg (by omega), if_pos (by omega)]; assumption) | (rw [if_neg (by omega), if_neg (by omega), if_neg (by omega), if_neg (by omega), if_neg (by omega), if_neg (by omega), if_pos (by omega)]; assumption) | (rw [if_neg (by omega), if_neg (by omega), if_neg (by omega), if_neg (by omega), if_neg (by omega), if_neg (by omega), if_neg (by omega), if_pos (by omega)]; assumption) | (rw [if_neg (by omega), if_neg (by omega), if_neg (by omega), if_neg (by omega), if_neg (by omega), if_neg (by omega), if_neg (by omega), if_neg (by omega), if_pos (by omega)]; assumption) | (rw [if_neg (by omega), if_neg (by omega), if_neg (by omega), if_neg (by omega), if_neg (by omega), if_neg (by omega), if_neg (by omega), if_neg (by omega), if_neg (by omega)]; done)
    · refine aw_tableIn 84 dX8_count_1 g1a g1b (by rw [c1]; rfl) rfl ?_
      refine aw_aload_n dX8_count_84 rfl ?_
      refine aw_getR1 dX8_count_85 fx_RX8_30 (by first | rfl | assumption) (by first | rfl | assumption) ?_
      refine aw_getI dX8_count_88 fx_RX8_332 (by first | rfl | assumption) ?_
      refine aw_ireturn dX8_count_91 rfl (Nat.le_refl _) (Nat.le_refl _) ?_
      refine ⟨am_ri ?_, rfl, hC, fun _ _ => rfl⟩
      show _ = (if _ then _ else _)
      first | (rw [if_pos (by omega)]; assumption) | (rw [if_neg (by omega), if_pos (by omega)]; assumption) | (rw [if_neg (by omega), if_neg (by omega), if_pos (by omega)]; assumption) | (rw [if_neg (by omega), if_neg (by omega), if_neg (by omega), if_pos (by omega)]; assumption) | (rw [if_neg (by omega), if_neg (by omega), if_neg (by omega), if_neg (by omega), if_pos (by omega)]; assumption) | (rw [if_neg (by omega), if_neg (by omega), if_neg (by omega), if_neg (by omega), if_neg (by omega), if_pos (by omega)]; assumption) | (rw [if_neg (by omega), if_neg (by omega), if_neg (by omega), if_neg (by omega), if_neg (by omega), if_neg (by omega), if_pos (by omega)]; assumption) | (rw [if_neg (by omega), if_neg (by omega), if_neg (by omega), if_neg (by omega), if_neg (by omega), if_neg (by omega), if_neg (by omega), if_pos (by omega)]; assumption) | (rw [if_neg (by omega), if_neg (by omega), if_neg (by omega), if_neg (by omega), if_neg (by omega), if_neg (by omega), if_neg (by omega), if_neg (by omega), if_pos (by omega)]; assumption) | (rw [if_neg (by omega), if_neg (by omega), if_neg (by omega), if_neg (by omega), if_neg (by omega), if_neg (by omega), if_neg (by omega), if_neg (by omega), if_neg (by omega)]; done)
    · refine aw_tableIn 92 dX8_count_1 g1a g1b (by rw [c1]; rfl) rfl ?_
      refine aw_aload_n dX8_count_92 rfl ?_
      refine aw_getR1 dX8_count_93 fx_RX8_30 (by first | rfl | assumption) (by first | rfl | assumption) ?_
      refine aw_v0i dX8_count_96 vl_RX8_183 (by first | rfl | assumption) (Nat.le_of_ble_eq_true rfl) (Nat.le_of_ble_eq_true rfl) (Nat.le_of_ble_eq_true rfl) (Nat.le_refl _) (Nat.le_refl _) (c_X7_frozenBits sh_16 (by omega) (by omega)) ?_
      refine aw_ireturn dX8_count_99 rfl (Nat.le_refl _) (Nat.le_refl _) ?_
      refine ⟨am_ri ?_, rfl, hC, fun _ _ => rfl⟩
      show _ = (if _ then _ else _)
      first | (rw [if_pos (by omega)]; assumption) | (rw [if_neg (by omega), if_pos (by omega)]; assumption) | (rw [if_neg (by omega), if_neg (by omega), if_pos (by omega)]; assumption) | (rw [if_neg (by omega), if_neg (by omega), if_neg (by omega), if_pos (by omega)]; assumption) | (rw [if_neg (by omega), if_neg (by omega), if_neg (by omega), if_neg (by omega), if_pos (by omega)]; assumption) | (rw [if_neg (by omega), if_neg (by omega), if_neg (by omega), if_neg (by omega), if_neg (by omega), if_pos (by omega)]; assumption) | (rw [if_neg (by omega), if_neg (by omega), if_neg (by omega), if_neg (by omega), if_neg (by omega), if_neg (by omega), if_pos (by omega)]; assumption) | (rw [if_neg (by omega), if_neg (by omega), if_neg (by omega), if_neg (by omega), if_neg (by omega), if_neg (by omega), if_neg (by omega), if_pos (by omega)]; assumption) | (rw [if_neg (by omega), if_neg (by omega), if_neg (by omega), if_neg (by omega), if_neg (by omega), if_neg (by omega), if_neg (by omega), if_neg (by omega), if_pos (by omega)]; assumption) | (rw [if_neg (by omega), if_neg (by omega), if_neg (by omega), if_neg (by omega), if_neg (by omega), if_neg (by omega), if_neg (by omega), if_neg (by omega), if_neg (by omega)]; done)
    · refine aw_tableIn 100 dX8_count_1 g1a g1b (by rw [c1]; rfl) rfl ?_
      refine aw_aload_n dX8_count_100 rfl ?_
      refine aw_getR1 dX8_count_101 fx_RX8_30 (by first | rfl | assumption) (by first | rfl | assumption) ?_
      refine aw_getI dX8_count_104 fx_RX8_147 (by first | rfl | assumption) ?_
      refine aw_ireturn dX8_count_107 rfl (Nat.le_refl _) (Nat.le_refl _) ?_
      refine ⟨am_ri ?_, rfl, hC, fun _ _ => rfl⟩
      show _ = (if _ then _ else _)
      first | (rw [if_pos (by omega)]; assumption) | (rw [if_neg (by omega), if_pos (by omega)]; assumption) | (rw [if_neg (by omega), if_neg (by omega), if_pos (by omega)]; assumption) | (rw [if_neg (by omega), if_neg (by omega), if_neg (by omega), if_pos (by omega)]; assumption) | (rw [if_neg (by omega), if_neg (by omega), if_neg (by omega), if_neg (by omega), if_pos (by omega)]; assumption) | (rw [if_neg (by omega), if_neg (by omega), if_neg (by omega), if_neg (by omega), if_neg (by omega), if_pos (by omega)]; assumption) | (rw [if_neg (by omega), if_neg (by omega), if_neg (by omega), if_neg (by omega), if_neg (by omega), if_neg (by omega), if_pos (by omega)]; assumption) | (rw [if_neg (by omega), if_neg (by omega), if_neg (by omega), if_neg (by omega), if_neg (by omega), if_neg (by omega), if_neg (by omega), if_pos (by omega)]; assumption) | (rw [if_neg (by omega), if_neg (by omega), if_neg (by omega), if_neg (by omega), if_neg (by omega), if_neg (by omega), if_neg (by omega), if_neg (by omega), if_pos (by omega)]; assumption) | (rw [if_neg (by omega), if_neg (by omega), if_neg (by omega), if_neg (by omega), if_neg (by omega), if_neg (by omega), if_neg (by omega), if_neg (by omega), if_neg (by omega)]; done)
    · refine aw_tableIn 108 dX8_count_1 g1a g1b (by rw [c1]; rfl) rfl ?_
      refine aw_aload_n dX8_count_108 rfl ?_
      refine aw_getR1 dX8_count_109 fx_RX8_56 (by first | rfl | assumption) (by first | rfl | assumption) ?_
      refine aw_getI dX8_count_112 fx_RX8_195 (by first | rfl | assumption) ?_
      refine aw_ireturn dX8_count_115 rfl (Nat.le_refl _) (Nat.le_refl _) ?_
      refine ⟨am_ri ?_, rfl, hC, fun _ _ => rfl⟩
      show _ = (if _ then _ else _)
      first | (rw [if_pos (by omega)]; assumption) | (rw [if_neg (by omega), if_pos (by omega)]; assumption) | (rw [if_neg (by omega), if_neg (by omega), if_pos (by omega)]; assumption) | (rw [if_neg (by omega), if_neg (by omega), if_neg (by omega), if_pos (by omega)]; assumption) | (rw [if_neg (by omega), if_neg (by omega), if_neg (by omega), if_neg (by omega), if_pos (by omega)]; assumption) | (rw [if_neg (by omega), if_neg (by omega), if_neg (by omega), if_neg (by omega), if_neg (by omega), if_pos (by omega)]; assumption) | (rw [if_neg (by omega), if_neg (by omega), if_neg (by omega), if_neg (by omega), if_neg (by omega), if_neg (by omega), if_pos (by omega)]; assumption) | (rw [if_neg (by omega), if_neg (by omega), if_neg (by omega), if_neg (by omega), if_neg (by omega), if_neg (by omega), if_neg (by omega), if_pos (by omega)]; assumption) | (rw [if_neg (by omega), if_neg (by omega), if_neg (by omega), if_neg (by omega), if_neg (by omega), if_neg (by omega), if_neg (by omega), if_neg (by omega), if_pos (by omega)]; assumption) | (rw [if_neg (by omega), if_neg (by omega), if_neg (by omega), if_neg (by omega), if_neg (by omega), if_neg (by omega), if_neg (by omega), if_neg (by omega), if_neg (by omega)]; done)
    · refine aw_tableIn 116 dX8_count_1 g1a g1b (by rw [c1]; rfl) rfl ?_
      refine aw_aload_n dX8_count_116 rfl ?_
      refine aw_getI dX8_count_117 fx_RX8_114 (by first | rfl | assumption) ?_
      refine aw_ireturn dX8_count_120 rfl (Nat.le_refl _) (Nat.le_refl _) ?_
      refine ⟨am_ri ?_, rfl, hC, fun _ _ => rfl⟩
      show _ = (if _ then _ else _)
      first | (rw [if_pos (by omega)]; assumption) | (rw [if_neg (by omega), if_pos (by omega)]; assumption) | (rw [if_neg (by omega), if_neg (by omega), if_pos (by omega)]; assumption) | (rw [if_neg (by omega), if_neg (by omega), if_neg (by omega), if_pos (by omega)]; assumption) | (rw [if_neg (by omega), if_neg (by omega), if_neg (by omega), if_neg (by omega), if_pos (by omega)]; assumption) | (rw [if_neg (by omega), if_neg (by omega), if_neg (by omega), if_neg (by omega), if_neg (by omega), if_pos (by omega)]; assumption) | (rw [if_neg (by omega), if_neg (by omega), if_neg (by omega), if_neg (by omega), if_neg (by omega), if_neg (by omega), if_pos (by omega)]; assumption) | (rw [if_neg (by omega), if_neg (by omega), if_neg (by omega), if_neg (by omega), if_neg (by omega), if_neg (by omega), if_neg (by omega), if_pos (by omega)]; assumption) | (rw [if_neg (by omega), if_neg (by omega), if_neg (by omega), if_neg (by omega), if_neg (by omega), if_neg (by omega), if_neg (by omega), if_neg (by omega), if_pos (by omega)]; assumption) | (rw [if_neg (by omega), if_neg (by omega), if_neg (by omega), if_neg (by omega), if_neg (by omega), if_neg (by omega), if_neg (by omega), if_neg (by omega), if_neg (by omega)]; done)
end ASK2
