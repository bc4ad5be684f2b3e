section FO2
variable {e q n L : Nat} {h : Mem}
set_option maxHeartbeats 1000000 in
theorem l_moved {h1 : Mem} {Q : Option AV → Tp → Mem → Prop} {w : Int} (hV : WFv (cV h1 16)) (hD : Done (cV h1 16) zz 27 h1 (h1 16 0).toNat) (hE : Done (cV h1 16) (ex1 w) 233 h1 (h1 16 0).toNat) (hk : Q (some (vI (bset (movP (cV h1 16) w) (h1 16 0).toNat))) (TT e q n L) h1) :
    ∀ (m : Nat) (k : Nat), (k : Int) + m = h1 16 0 → AW M_X1_movedBy 0 0 Q 29 [some (vR 232), some (vI w), some (vR 27), some (vI (bset (movP (cV h1 16) w) k)), some (vI k)] [] (TT e q n L) h1 0 0 := by
  have w2 := hV.2.1
  rw [cVc] at w2
  intro m
  induction m with
  | zero =>
    intro k hi
    have e1 : (h1 16 0).toNat = k := by omega
    rw [e1] at hk
    refine aw_iload dX1_movedBy_29 rfl ?_
    refine aw_aload_n dX1_movedBy_31 rfl ?_
    refine aw_getR1 dX1_movedBy_32 fx_RX1_22 (by first | rfl | assumption) (by first | rfl | assumption) ?_
    refine aw_getI dX1_movedBy_35 fx_RX1_55 (by first | rfl | assumption) ?_
    refine aw_icmp_ge 67 dX1_movedBy_38 rfl (fun c38 => ?_) (fun c38 => ?_)
    · refine aw_iload_n dX1_movedBy_67 rfl ?_
      refine aw_ireturn dX1_movedBy_68 rfl (Nat.le_refl _) (Nat.le_refl _) ?_
      exact hk
    · exfalso; omega
  | succ m ih =>
    intro k hi
    have z := ih (k + 1) (by omega)
    have d1 := hD k (by omega)
    have d2 := hE k (by omega)
    have em : (h1 (233 + 1) k = h1 (27 + 1) k ∧ h1 (233 + 2) k = h1 (27 + 2) k ∧ h1 (233 + 3) k = h1 (27 + 3) k) ↔ stand (cV h1 16) (ex1 w) k = stand (cV h1 16) zz k := by
      rw [d1.1, d1.2.1, d1.2.2, d2.1, d2.2.1, d2.2.2]
      constructor
      · rintro ⟨y1, y2, y3⟩
        exact Prod.ext y1 (Prod.ext y2 y3)
      · intro y
        rw [y]
        exact ⟨rfl, rfl, rfl⟩
    refine aw_iload dX1_movedBy_29 rfl ?_
    refine aw_aload_n dX1_movedBy_31 rfl ?_
    refine aw_getR1 dX1_movedBy_32 fx_RX1_22 (by first | rfl | assumption) (by first | rfl | assumption) ?_
    refine aw_getI dX1_movedBy_35 fx_RX1_55 (by first | rfl | assumption) ?_
    refine aw_icmp_ge 67 dX1_movedBy_38 rfl (fun c38 => ?_) (fun c38 => ?_)
    · exfalso; omega
    · refine aw_aload_n dX1_movedBy_41 rfl ?_
      refine aw_getR1 dX1_movedBy_42 fx_RX1_12 (by first | rfl | assumption) (by first | rfl | assumption) ?_
      refine aw_iload dX1_movedBy_45 rfl ?_
      refine aw_aload_n dX1_movedBy_47 rfl ?_
      refine aw_v2i dX1_movedBy_48 vl_RX1_76 (by first | rfl | assumption) (Nat.le_of_ble_eq_true rfl) (Nat.le_of_ble_eq_true rfl) (Nat.le_of_ble_eq_true rfl) (Nat.le_refl _) (Nat.le_refl _) (c_X2_hasElsewhere ol_233 ol_27 (by omega) (by omega)) ?_
      refine aw_if_eq 61 dX1_movedBy_51 rfl (fun c51 => ?_) (fun c51 => ?_)
      · rw [bset_f (by unfold movP; exact decide_eq_false (fun y => y (em.mp (by by_cases y2 : h1 (233 + 1) k = h1 (27 + 1) k ∧ h1 (233 + 2) k = h1 (27 + 2) k ∧ h1 (233 + 3) k = h1 (27 + 3) k; exact y2; rw [if_neg y2] at c51; omega))))] at z
        refine aw_iinc (ls' := [_, _, _, _, _]) dX1_movedBy_61 (by decide) rfl (by omega) (by omega) rfl ?_
        refine aw_goto 29 dX1_movedBy_64 rfl ?_
        exact z
      · refine aw_iload_n dX1_movedBy_54 rfl ?_
        refine aw_iconst dX1_movedBy_55 (by decide) (by decide) ?_
        refine aw_iload dX1_movedBy_56 rfl ?_
        refine aw_ishlw dX1_movedBy_58 ?_
        refine aw_iorw dX1_movedBy_59 ?_
        refine aw_istore_n (ls' := [_, _, _, _, _]) dX1_movedBy_60 (by decide) rfl ?_
        refine aw_iinc (ls' := [_, _, _, _, _]) dX1_movedBy_61 (by decide) rfl (by omega) (by omega) rfl ?_
        refine aw_goto 29 dX1_movedBy_64 rfl ?_
        rw [bset_t (by unfold movP; exact decide_eq_true (fun y => c51 (if_pos (em.mpr y))))] at z
        exact z
theorem c_X1_movedBy {w : Int} (hro : RO h) (hV : WFv (cV h 16)) : Sem M_X1_movedBy [vR 232, vI w] (TT e q n L) h 0 0 (fun v t' h' => v = some (vI (bset (movP (cV h 16) w) (h 16 0).toNat)) ∧ t' = TT e q n L ∧ SC h h') := by
  have w1 := hV.1
  rw [cVc] at w1
  refine sem_intro (by decide) rfl (Nat.le_of_ble_eq_true rfl) rfl ?_
  refine aw_aload_n dX1_movedBy_0 rfl ?_
  refine aw_getR1 dX1_movedBy_1 fx_RX1_29 (by first | rfl | assumption) (by first | rfl | assumption) ?_
  refine aw_aload_n dX1_movedBy_4 rfl ?_
  refine aw_getR1 dX1_movedBy_5 fx_RX1_22 (by first | rfl | assumption) (by first | rfl | assumption) ?_
  refine aw_v1q dX1_movedBy_8 vl_RX1_51 (by first | rfl | assumption) (Nat.le_of_ble_eq_true rfl) (Nat.le_of_ble_eq_true rfl) (Nat.le_of_ble_eq_true rfl) (Nat.le_refl _) (Nat.le_refl _) (c_X6_outlined sh_16 isSe (by decide) hro hV) ?_
  intro v t' h1 hq
  obtain ⟨rfl, rfl, f1, f2⟩ := hq
  have eV : cV h1 16 = cV h 16 := f1.cV (by decide)
  have e0 : h1 16 0 = h 16 0 := by rw [f1 16 (by decide)]
  refine aw_astore_n (ls' := [_, _, _, _, _]) dX1_movedBy_11 (by decide) rfl ?_
  refine aw_aload_n dX1_movedBy_12 rfl ?_
  refine aw_getR1 dX1_movedBy_13 fx_RX1_12 (by first | rfl | assumption) (by first | rfl | assumption) ?_
  refine aw_aload_n dX1_movedBy_16 rfl ?_
  refine aw_getR1 dX1_movedBy_17 fx_RX1_22 (by first | rfl | assumption) (by first | rfl | assumption) ?_
  refine aw_iload_n dX1_movedBy_20 rfl ?_
  refine aw_v2q dX1_movedBy_21 vl_RX1_72 (by first | rfl | assumption) (Nat.le_of_ble_eq_true rfl) (Nat.le_of_ble_eq_true rfl) (Nat.le_of_ble_eq_true rfl) (Nat.le_refl _) (Nat.le_refl _) (c_X2_setOut ol_233 sh_16 (by decide) rfl (hro.fr f1 (by decide)) (by rw [eV]; exact hV)) ?_
  intro v t' h2 hq
  obtain ⟨rfl, rfl, g1, g2⟩ := hq
  have eV2 : cV h2 16 = cV h 16 := by rw [← eV]; exact g1.cV (by decide)
  have e02 : h2 16 0 = h 16 0 := by rw [g1 16 (by decide)]; exact e0
  refine aw_iconst dX1_movedBy_24 (by decide) (by decide) ?_
  refine aw_istore_n (ls' := [_, _, _, _, _]) dX1_movedBy_25 (by decide) rfl ?_
  refine aw_iconst dX1_movedBy_26 (by decide) (by decide) ?_
  refine aw_istore (ls' := [_, _, _, _, _]) dX1_movedBy_27 (by decide) rfl ?_
  exact l_moved (h1 := h2) (by rw [eV2]; exact hV) (by rw [eV2, e02]; intro k hk2; rw [g1 _ (by decide), g1 _ (by decide), g1 _ (by decide)]; exact f2 k hk2) (by rw [eV2, e02, ← eV, ← e0]; exact g2) ⟨by rw [eV2, e02], rfl, fun c hc => by rw [g1 c (by omega)]; exact f1 c (by omega)⟩ (h2 16 0).toNat 0 (by omega)
set_option maxHeartbeats 1000000 in
theorem c_X1_lastPageWith {i x : Int} (hro : RO h) (hV : WFv (cV h 16)) (i0 : 0 ≤ i) (i1 : i < h 16 0) (hk : h 17 i = 4) (x0 : 1 ≤ x) (x1 : x ≤ 20) : Sem M_X1_lastPageWith [vR 232, vI i, vI x] (TT e q n L) h 0 0 (fun v t' h' => v = some (vI (lastW (cV h 16) i x)) ∧ t' = TT e q n L ∧ SC h h') := by
  have w1 := hV.1
  have w2 := hV.2.1
  rw [cVc] at w1 w2
  have k1 : cV h 16 1 i = 4 := (cV1 i0 i1).trans hk
  have hV2 : WFv (setV (cV h 16) 2 i x) := setV2_wf hV (fun z => by omega) (fun _ => ⟨x0, x1⟩)
  have hok := settles_ok (stop := false) (bgn_wf hV2)
  have e00 : (settles false (bgn (setV (cV h 16) 2 i x))).1 0 0 = h 16 0 := by rw [hok.2.2.2.2.2, bgn_0 (by omega) (by omega)]; exact cVc
  unfold lastW
  refine sem_intro (by decide) rfl (Nat.le_of_ble_eq_true rfl) rfl ?_
  refine aw_aload_n dX1_lastPageWith_0 rfl ?_
  refine aw_getR1 dX1_lastPageWith_1 fx_RX1_26 (by first | rfl | assumption) (by first | rfl | assumption) ?_
  refine aw_aload_n dX1_lastPageWith_4 rfl ?_
  refine aw_getR1 dX1_lastPageWith_5 fx_RX1_22 (by first | rfl | assumption) (by first | rfl | assumption) ?_
  refine aw_v1q dX1_lastPageWith_8 vl_RX1_36 (by first | rfl | assumption) (Nat.le_of_ble_eq_true rfl) (Nat.le_of_ble_eq_true rfl) (Nat.le_of_ble_eq_true rfl) (Nat.le_refl _) (Nat.le_refl _) (c_X7_takeFrom sh_21 sh_16 (by decide) (by omega)) ?_
  intro v t' h1 hq
  obtain ⟨rfl, rfl, f1, f2⟩ := hq
  have e1 : h1 21 0 = h 16 0 := by rw [← cVc (h := h1), f1, cVc]
  refine aw_aload_n dX1_lastPageWith_11 rfl ?_
  refine aw_getR1 dX1_lastPageWith_12 fx_RX1_26 (by first | rfl | assumption) (by first | rfl | assumption) ?_
  refine aw_getR1 dX1_lastPageWith_15 fx_RX1_59 (by first | rfl | assumption) (by first | rfl | assumption) ?_
  refine aw_iload_n dX1_lastPageWith_18 rfl ?_
  refine aw_iload_n dX1_lastPageWith_19 rfl ?_
  refine aw_iastore dX1_lastPageWith_20 (by first | rfl | assumption) (by omega) (by omega) (by omega) ?_
  have eV2 : cV (am_up h1 (21 + 2) i x) 21 = setV (cV h 16) 2 i x := by rw [cV_set (by omega) i0 (by omega), f1]
  obtain ⟨h2, hh2⟩ : ∃ h2, h2 = am_up h1 (21 + 2) i x := ⟨_, rfl⟩
  rw [← hh2] at eV2 ⊢
  have g2 : ∀ c, c ≠ 23 → h2 c = h1 c := fun c hc => by rw [hh2]; exact am_up_ne hc
  refine aw_aload_n dX1_lastPageWith_21 rfl ?_
  refine aw_getR1 dX1_lastPageWith_22 fx_RX1_26 (by first | rfl | assumption) (by first | rfl | assumption) ?_
  refine aw_v0q dX1_lastPageWith_25 vl_RX1_84 (by first | rfl | assumption) (Nat.le_of_ble_eq_true rfl) (Nat.le_of_ble_eq_true rfl) (Nat.le_of_ble_eq_true rfl) (Nat.le_refl _) (Nat.le_refl _) (c_X7_beginAnew sh_21 (by rw [g2 21 (by decide)]; omega)) ?_
  intro v t' h3 hq
  obtain ⟨rfl, rfl, f3, f4⟩ := hq
  rw [eV2] at f3
  refine aw_aload_n dX1_lastPageWith_28 rfl ?_
  refine aw_getR1 dX1_lastPageWith_29 fx_RX1_29 (by first | rfl | assumption) (by first | rfl | assumption) ?_
  refine aw_aload_n dX1_lastPageWith_32 rfl ?_
  refine aw_getR1 dX1_lastPageWith_33 fx_RX1_26 (by first | rfl | assumption) (by first | rfl | assumption) ?_
  refine aw_iconst dX1_lastPageWith_36 (by decide) (by decide) ?_
  refine aw_v2q dX1_lastPageWith_37 vl_RX1_87 (by first | rfl | assumption) (Nat.le_of_ble_eq_true rfl) (Nat.le_of_ble_eq_true rfl) (Nat.le_of_ble_eq_true rfl) (Nat.le_refl _) (Nat.le_refl _) (c_X6_bringToRest (stop := false) sh_21 isSe (by decide) (fun j j0 j1 => by rw [f4 _ (by decide), g2 _ (by decide), f2 _ (by decide)]; exact hro j j0 j1) (by rw [f3]; exact bgn_wf hV2) rfl) ?_
  intro v t' h4 hq
  obtain ⟨rfl, rfl, p1, p2, p3, p4, p5, p6⟩ := hq
  rw [f3] at p1
  have e21 : h4 21 0 = h 16 0 := by rw [← cVc (h := h4), p1, e00]
  refine aw_aload_n dX1_lastPageWith_40 rfl ?_
  refine aw_getR1 dX1_lastPageWith_41 fx_RX1_26 (by first | rfl | assumption) (by first | rfl | assumption) ?_
  refine aw_v0i dX1_lastPageWith_44 vl_RX1_91 (by first | rfl | assumption) (Nat.le_of_ble_eq_true rfl) (Nat.le_of_ble_eq_true rfl) (Nat.le_of_ble_eq_true rfl) (Nat.le_refl _) (Nat.le_refl _) (c_X7_lastGuess sh_21 (by omega) (by omega)) ?_
  refine aw_ireturn dX1_lastPageWith_47 rfl (Nat.le_refl _) (Nat.le_refl _) ?_
  exact ⟨am_ri (by unfold lastG; rw [← p1, cVc, cV3 (by omega) (by omega)]), rfl, fun c hc => by rw [p6 c (by omega) (by omega) (by omega), f4 c (by omega), g2 c (by omega), f2 c (by omega)]⟩
set_option maxHeartbeats 1000000 in
theorem l_widest {Q : Option AV → Tp → Mem → Prop} {i now : Int} {V : VW} (hro : RO h) (hv : cV h 16 = V) (hV : WFv V) (i0 : 0 ≤ i) (i1 : i < V 0 0) (hk4 : V 1 i = 4) (n0 : 1 ≤ now) (n1 : now ≤ 20) (hk : ∀ hh, SC h hh → Q (some (vI (widS V i now (lastW V i now) (20 - now).toNat))) (TT e q n L) hh) :
    ∀ (m : Nat) (x : Int) (hh : Mem), x = now + m → x ≤ 20 → SC h hh → widS V i now (lastW V i now) (20 - now).toNat = widS V i now (lastW V i now) m →
      AW M_X1_widestOf 0 0 Q 21 [some (vR 232), some (vI i), some (vI now), some (vI (lastW V i now)), some (vI x)] [] (TT e q n L) hh 0 0 := by
  intro m
  induction m with
  | zero =>
    intro x hh hx hx2 hf hw
    have z := hk hh hf
    rw [hw] at z
    refine aw_iload dX1_widestOf_21 rfl ?_
    refine aw_iload_n dX1_widestOf_23 rfl ?_
    refine aw_icmp_le 47 dX1_widestOf_24 rfl (fun c24 => ?_) (fun c24 => ?_)
    · refine aw_iload_n dX1_widestOf_47 rfl ?_
      refine aw_ireturn dX1_widestOf_48 rfl (Nat.le_refl _) (Nat.le_refl _) ?_
      exact z
    · exfalso; omega
  | succ m ih =>
    intro x hh hx hx2 hf hw
    have eV : cV hh 16 = V := by rw [← hv]; exact hf.cV (by decide)
    have e0 : hh 16 0 = V 0 0 := by rw [← eV, cVc]
    have ek : hh 17 i = 4 := by rw [← hk4, ← eV, cV1 i0 (by omega)]
    have ew : widS V i now (lastW V i now) (m + 1) = if lastW V i x = lastW V i now then x else widS V i now (lastW V i now) m := by rw [hx]; rfl
    refine aw_iload dX1_widestOf_21 rfl ?_
    refine aw_iload_n dX1_widestOf_23 rfl ?_
    refine aw_icmp_le 47 dX1_widestOf_24 rfl (fun c24 => ?_) (fun c24 => ?_)
    · exfalso; omega
    · refine aw_aload_n dX1_widestOf_27 rfl ?_
      refine aw_iload_n dX1_widestOf_28 rfl ?_
      refine aw_iload dX1_widestOf_29 rfl ?_
      refine aw_v2q dX1_widestOf_31 vl_RX1_80 (by first | rfl | assumption) (Nat.le_of_ble_eq_true rfl) (Nat.le_of_ble_eq_true rfl) (Nat.le_of_ble_eq_true rfl) (Nat.le_refl _) (Nat.le_refl _) (c_X1_lastPageWith (hf.ro hro) (by rw [eV]; exact hV) i0 (by omega) ek (by omega) hx2) ?_
      intro v t' h3 hq
      obtain ⟨rfl, rfl, f3⟩ := hq
      rw [eV]
      refine aw_iload_n dX1_widestOf_34 rfl ?_
      refine aw_icmp_ne 41 dX1_widestOf_35 rfl (fun c35 => ?_) (fun c35 => ?_)
      · refine aw_iinc (ls' := [_, _, _, _, _]) dX1_widestOf_41 (by decide) rfl (by omega) (by omega) rfl ?_
        refine aw_goto 21 dX1_widestOf_44 rfl ?_
        exact ih _ h3 (by omega) (by omega) (hf.tr f3) (by rw [hw, ew, if_neg c35])
      · refine aw_iload dX1_widestOf_38 rfl ?_
        refine aw_ireturn dX1_widestOf_40 rfl (Nat.le_refl _) (Nat.le_refl _) ?_
        have z := hk h3 (hf.tr f3)
        rw [hw, ew, if_pos c35] at z
        exact z
theorem c_X1_widestOf {i : Int} (hro : RO h) (hV : WFv (cV h 16)) (i0 : 0 ≤ i) (i1 : i < h 16 0) (hk : h 17 i = 4) : Sem M_X1_widestOf [vR 232, vI i] (TT e q n L) h 0 0 (fun v t' h' => v = some (vI (widS (cV h 16) i (h 18 i) (lastW (cV h 16) i (h 18 i)) (20 - h 18 i).toNat)) ∧ t' = TT e q n L ∧ SC h h') := by
  have w2 := hV.2.1
  rw [cVc] at w2
  have wi := hV.2.2.2.2.2.2.2.2 i i0 (by rw [cVc]; exact i1)
  have k1 : cV h 16 1 i = 4 := (cV1 i0 i1).trans hk
  have k2 : cV h 16 2 i = h 18 i := cV2 i0 i1
  have wn := wi.2.2.2.1 k1
  rw [k2] at wn
  refine sem_intro (by decide) rfl (Nat.le_of_ble_eq_true rfl) rfl ?_
  refine aw_aload_n dX1_widestOf_0 rfl ?_
  refine aw_getR1 dX1_widestOf_1 fx_RX1_22 (by first | rfl | assumption) (by first | rfl | assumption) ?_
  refine aw_getR1 dX1_widestOf_4 fx_RX1_59 (by first | rfl | assumption) (by first | rfl | assumption) ?_
  refine aw_iload_n dX1_widestOf_7 rfl ?_
  refine aw_iaload dX1_widestOf_8 (by first | rfl | assumption) (by omega) (by omega) ?_
  refine aw_istore_n (ls' := [_, _, _, _, _]) dX1_widestOf_9 (by decide) rfl ?_
  refine aw_aload_n dX1_widestOf_10 rfl ?_
  refine aw_iload_n dX1_widestOf_11 rfl ?_
  refine aw_iload_n dX1_widestOf_12 rfl ?_
  refine aw_v2q dX1_widestOf_13 vl_RX1_80 (by first | rfl | assumption) (Nat.le_of_ble_eq_true rfl) (Nat.le_of_ble_eq_true rfl) (Nat.le_of_ble_eq_true rfl) (Nat.le_refl _) (Nat.le_refl _) (c_X1_lastPageWith hro hV i0 i1 hk wn.1 wn.2) ?_
  intro v t' h3 hq
  obtain ⟨rfl, rfl, f3⟩ := hq
  refine aw_istore_n (ls' := [_, _, _, _, _]) dX1_widestOf_16 (by decide) rfl ?_
  refine aw_bipush dX1_widestOf_17 (by decide) (by decide) ?_
  refine aw_istore (ls' := [_, _, _, _, _]) dX1_widestOf_19 (by decide) rfl ?_
  exact l_widest (h := h) (V := cV h 16) hro rfl hV i0 (by rw [cVc]; exact i1) k1 wn.1 wn.2 (fun hh f => ⟨rfl, rfl, f⟩) (20 - h 18 i).toNat 20 h3 (by omega) (by omega) f3 rfl
set_option maxHeartbeats 1000000 in
theorem l_restless {Q : Option AV → Tp → Mem → Prop} {V : VW} (hro : RO h) (hv : cV h 16 = V) (hV : WFv V) (hk : ∀ hh, SC h hh → Q (some (vI (resS V 87 1))) (TT e q n L) hh) :
    ∀ (m : Nat) (f : Int) (hh : Mem), f + m = 88 → 1 ≤ f → SC h hh → resS V 87 1 = resS V m f → AW M_X1_restlessFirst 0 0 Q 2 [some (vR 232), some (vI f)] [] (TT e q n L) hh 0 0 := by
  have w2 := hV.2.1
  intro m
  induction m with
  | zero =>
    intro f hh hf1 hf2 hf hw
    have z := hk hh hf
    rw [hw] at z
    refine aw_iload_n dX1_restlessFirst_2 rfl ?_
    refine aw_bipush dX1_restlessFirst_3 (by decide) (by decide) ?_
    refine aw_icmp_gt 64 dX1_restlessFirst_5 rfl (fun c5 => ?_) (fun c5 => ?_)
    · refine aw_ldc (n := -1000000) dX1_restlessFirst_64 kc_RX1_101 (by decide) ?_
      refine aw_ireturn dX1_restlessFirst_66 rfl (Nat.le_refl _) (Nat.le_refl _) ?_
      exact z
    · exfalso; omega
  | succ m ih =>
    intro f hh hf1 hf2 hf hw
    have eV : cV hh 16 = V := by rw [← hv]; exact hf.cV (by decide)
    have e0 : hh 16 0 = V 0 0 := by rw [← eV, cVc]
    have hV2 : WFv (setV V 0 3 f) := setV0_wf hV hf2 (by omega)
    have ew : resS V (m + 1) f = if 0 < (settles true (bgn (setV V 0 3 f))).2.2.1 then f else resS V m (f + 1) := rfl
    refine aw_iload_n dX1_restlessFirst_2 rfl ?_
    refine aw_bipush dX1_restlessFirst_3 (by decide) (by decide) ?_
    refine aw_icmp_gt 64 dX1_restlessFirst_5 rfl (fun c5 => ?_) (fun c5 => ?_)
    · exfalso; omega
    · refine aw_aload_n dX1_restlessFirst_8 rfl ?_
      refine aw_getR1 dX1_restlessFirst_9 fx_RX1_26 (by first | rfl | assumption) (by first | rfl | assumption) ?_
      refine aw_aload_n dX1_restlessFirst_12 rfl ?_
      refine aw_getR1 dX1_restlessFirst_13 fx_RX1_22 (by first | rfl | assumption) (by first | rfl | assumption) ?_
      refine aw_v1q dX1_restlessFirst_16 vl_RX1_36 (by first | rfl | assumption) (Nat.le_of_ble_eq_true rfl) (Nat.le_of_ble_eq_true rfl) (Nat.le_of_ble_eq_true rfl) (Nat.le_refl _) (Nat.le_refl _) (c_X7_takeFrom sh_21 sh_16 (by decide) (by omega)) ?_
      intro v t' h1 hq
      obtain ⟨rfl, rfl, f1, f2⟩ := hq
      rw [eV] at f1
      have e1 : h1 21 0 = V 0 0 := by rw [← cVc (h := h1), f1]
      refine aw_aload_n dX1_restlessFirst_19 rfl ?_
      refine aw_getR1 dX1_restlessFirst_20 fx_RX1_26 (by first | rfl | assumption) (by first | rfl | assumption) ?_
      refine aw_iload_n dX1_restlessFirst_23 rfl ?_
      refine aw_putI dX1_restlessFirst_24 fp_RX1_95 (by first | rfl | assumption) ?_
      have eV2 : cV (am_up h1 21 3 f) 21 = setV V 0 3 f := by rw [cV_setS (by decide) (by decide), f1]
      obtain ⟨h2, hh2⟩ : ∃ h2, h2 = am_up h1 21 3 f := ⟨_, rfl⟩
      rw [← hh2] at eV2 ⊢
      have g2 : ∀ c, c ≠ 21 → h2 c = h1 c := fun c hc => by rw [hh2]; exact am_up_ne hc
      refine aw_aload_n dX1_restlessFirst_27 rfl ?_
      refine aw_getR1 dX1_restlessFirst_28 fx_RX1_26 (by first | rfl | assumption) (by first | rfl | assumption) ?_
      refine aw_v0q dX1_restlessFirst_31 vl_RX1_84 (by first | rfl | assumption) (Nat.le_of_ble_eq_true rfl) (Nat.le_of_ble_eq_true rfl) (Nat.le_of_ble_eq_true rfl) (Nat.le_refl _) (Nat.le_refl _) (c_X7_beginAnew sh_21 (by rw [hh2]; simp [am_up]; omega)) ?_
      intro v t' h3 hq
      obtain ⟨rfl, rfl, f3, f4⟩ := hq
      rw [eV2] at f3
      refine aw_aload_n dX1_restlessFirst_34 rfl ?_
      refine aw_getR1 dX1_restlessFirst_35 fx_RX1_29 (by first | rfl | assumption) (by first | rfl | assumption) ?_
      refine aw_aload_n dX1_restlessFirst_38 rfl ?_
      refine aw_getR1 dX1_restlessFirst_39 fx_RX1_26 (by first | rfl | assumption) (by first | rfl | assumption) ?_
      refine aw_iconst dX1_restlessFirst_42 (by decide) (by decide) ?_
      refine aw_v2q dX1_restlessFirst_43 vl_RX1_87 (by first | rfl | assumption) (Nat.le_of_ble_eq_true rfl) (Nat.le_of_ble_eq_true rfl) (Nat.le_of_ble_eq_true rfl) (Nat.le_refl _) (Nat.le_refl _) (c_X6_bringToRest (stop := true) sh_21 isSe (by decide) (fun j j0 j1 => by rw [f4 _ (by decide), g2 _ (by decide), f2 _ (by decide)]; exact hf.ro hro j j0 j1) (by rw [f3]; exact bgn_wf hV2) rfl) ?_
      intro v t' h4 hq
      obtain ⟨rfl, rfl, p1, p2, p3, p4, p5, p6⟩ := hq
      rw [f3] at p3
      have sc : SC h h4 := fun c hc => by rw [p6 c (by omega) (by omega) (by omega), f4 c (by omega), g2 c (by omega), f2 c (by omega)]; exact hf c hc
      refine aw_aload_n dX1_restlessFirst_46 rfl ?_
      refine aw_getR1 dX1_restlessFirst_47 fx_RX1_29 (by first | rfl | assumption) (by first | rfl | assumption) ?_
      refine aw_getI dX1_restlessFirst_50 fx_RX1_98 (by first | rfl | assumption) ?_
      refine aw_if_le 58 dX1_restlessFirst_53 rfl (fun c53 => ?_) (fun c53 => ?_)
      · refine aw_iinc (ls' := [_, _]) dX1_restlessFirst_58 (by decide) rfl (by omega) (by omega) rfl ?_
        refine aw_goto 2 dX1_restlessFirst_61 rfl ?_
        exact ih _ h4 (by omega) (by omega) sc (by rw [hw, ew, if_neg (by omega)])
      · refine aw_iload_n dX1_restlessFirst_56 rfl ?_
        refine aw_ireturn dX1_restlessFirst_57 rfl (Nat.le_refl _) (Nat.le_refl _) ?_
        have z := hk h4 sc
        rw [hw, ew, if_pos (by omega)] at z
        exact z
theorem c_X1_restlessFirst (hro : RO h) (hV : WFv (cV h 16)) : Sem M_X1_restlessFirst [vR 232] (TT e q n L) h 0 0 (fun v t' h' => v = some (vI (resS (cV h 16) 87 1)) ∧ t' = TT e q n L ∧ SC h h') := by
  refine sem_intro (by decide) rfl (Nat.le_of_ble_eq_true rfl) rfl ?_
  refine aw_iconst dX1_restlessFirst_0 (by decide) (by decide) ?_
  refine aw_istore_n (ls' := [_, _]) dX1_restlessFirst_1 (by decide) rfl ?_
  exact l_restless (h := h) hro rfl hV (fun hh f => ⟨rfl, rfl, f⟩) 87 1 h (by omega) (by omega) SC.rf rfl
end FO2
