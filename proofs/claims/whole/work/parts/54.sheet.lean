section RED
variable {e q n L : Nat} {h : Mem} {b : Int → Int} {l : Int}
theorem ps_b (h0 : 0 ≤ l) : 0 ≤ (psS b l).1.1 ∧ (psS b l).1.1 ≤ l ∧ 0 ≤ (psS b l).2 0 0 ∧ (psS b l).2 0 0 ≤ 12 := by
  obtain ⟨_, _, _, ⟨a7, a8⟩⟩ := lw_b (b := b) h0
  exact itN_b _ (lw4 b l, lwV b l) a7 a8 (by show (0 : Int) ≤ 0; decide) (by show (0 : Int) ≤ 12; decide)
theorem RV_bgn {V : VW} (hV : RV h V) : bgn (cV h 21) = bgn V := by
  have w0 := hV.1 0 (by decide) (by decide)
  unfold bgn
  refine cut_eq (fun k k0 k1 => ?_) (fun j k j0 j5 k0 k1 => ?_)
  · rw [if_neg (by decide), if_neg (by decide), if_neg (by decide), if_neg (by decide), cV0 k0 k1]
    exact hV.1 k k0 k1
  · have k2 : k < h 21 0 := by
      revert k1
      rw [if_neg (by decide), if_neg (by decide), cVc]
      exact id
    have e3 : cV h 21 0 3 = V 0 3 := by rw [cV0 (by decide) (by decide)]; exact hV.1 3 (by decide) (by decide)
    have hj : j = 1 ∨ j = 2 ∨ j = 3 ∨ j = 4 := by omega
    rcases hj with rfl | rfl | rfl | rfl
    · rw [if_neg (by decide), if_neg (by decide), if_neg (by decide), if_neg (by decide), cV1 k0 k2]
      exact (hV.2 k k0 (by omega)).1
    · rw [if_neg (by decide), if_neg (by decide), if_neg (by decide), if_neg (by decide), cV2 k0 k2]
      exact (hV.2 k k0 (by omega)).2
    · rw [if_pos rfl, if_pos rfl]; exact e3
    · rw [if_neg (by decide), if_pos rfl, if_neg (by decide), if_pos rfl]
def QRd (b : Int → Int) (l : Int) (h : Mem) (t : Tp) : Option AV → Tp → Mem → Prop := fun v t' h' => v = some (vI (if psF b l = 0 then 1 else 0)) ∧ t' = t ∧ RD b l h' ((psS b l).1.1, psF b l) ∧ cV h' 21 = bgn (psS b l).2 ∧ h' 21 0 = (psS b l).2 0 0 ∧ ∀ c, c ≠ 14 → c < 21 ∨ 25 < c → h' c = h c
theorem c_X4_reads (hT : ∀ j, 0 ≤ j → j < l → h 13 j = b j) (hb : ∀ j, 0 ≤ j → j < l → 0 ≤ b j ∧ b j ≤ 255) (l0 : 0 ≤ l) (hl : l ≤ 80) : Sem M_X4_reads [vR 14, vR 13, vI l, vR 21] (TT e q n L) h 0 0 (QRd b l h (TT e 13 n L)) := by
  obtain ⟨q1, q2, q3, q4⟩ := ps_b (b := b) l0
  obtain ⟨_, _, _, ⟨a7, a8⟩⟩ := lw_b (b := b) l0
  obtain ⟨N, hN⟩ : ∃ N : Nat, (psS b l).2 0 0 = (N : Int) := ⟨((psS b l).2 0 0).toNat, by omega⟩
  have tl : ∀ (hh : Mem) (i : Int), RD b l hh (psS b l).1 → RV hh (psS b l).2 → (∀ c, c ≠ 14 → c < 21 ∨ 23 < c → hh c = h c) → AW M_X4_reads 0 0 (QRd b l h (TT e 13 n L)) 88 [some (vR 14), some (vR 13), some (vI l), some (vR 21), some (vI i)] [] (TT e 13 n L) hh 0 0 := by
    intro hh i hR hV hf
    have w0 := hV.1 0 (by decide) (by decide)
    refine aw_aload_n dX4_reads_88 rfl ?_
    refine aw_aload_n dX4_reads_89 rfl ?_
    refine aw_v1q dX4_reads_90 vl_RX4_46 (by first | rfl | assumption) (Nat.le_of_ble_eq_true rfl) (Nat.le_of_ble_eq_true rfl) (Nat.le_of_ble_eq_true rfl) (Nat.le_refl _) (Nat.le_refl _) (c_X4_look (N := N) hR hV hN (by omega)) ?_
    intro v t' h1 hq
    obtain ⟨rfl, rfl, f1, f2⟩ := hq
    refine aw_aload_n dX4_reads_93 rfl ?_
    refine aw_v0q dX4_reads_94 vl_RX4_49 (by first | rfl | assumption) (Nat.le_of_ble_eq_true rfl) (Nat.le_of_ble_eq_true rfl) (Nat.le_of_ble_eq_true rfl) (Nat.le_refl _) (Nat.le_refl _) (c_X7_beginAnew sh_21 (by rw [f2 21 (by decide), w0]; exact q4)) ?_
    intro v t' h2 hq
    obtain ⟨rfl, rfl, f3, f4⟩ := hq
    have eF : (if (psS b l).1.2 ≠ 0 then (psS b l).1.2 else if lkS (psS b l).2 N = true then 0 else 4) = psF b l := by unfold psF; rw [hN]; rfl
    rw [eF] at f1
    have R2 : RD b l h2 ((psS b l).1.1, psF b l) := ⟨by rw [f4 14 (by decide)]; exact f1.1, by rw [f4 14 (by decide)]; exact f1.2.1, by rw [f4 14 (by decide)]; exact f1.2.2.1, fun j j0 j1 => by rw [f4 13 (by decide)]; exact f1.2.2.2 j j0 j1⟩
    have e3 : cV h2 21 = bgn (psS b l).2 := by rw [f3, cV_congr (fun k _ _ => by rw [f2 21 (by decide)]) (fun j k _ _ _ _ => by rw [f2 (21 + j) (by omega)])]; exact RV_bgn hV
    have e4 : h2 21 0 = (psS b l).2 0 0 := by rw [← cVc (h := h2), e3]; exact bgn_0 (by decide) (by decide)
    have ef : h2 14 3 = psF b l := R2.2.2.1
    have fr : ∀ c, c ≠ 14 → c < 21 ∨ 25 < c → h2 c = h c := fun c x1 x2 => by rw [f4 c (by omega), f2 c x1, hf c x1 (by omega)]
    refine aw_aload_n dX4_reads_97 rfl ?_
    refine aw_getI dX4_reads_98 fx_RX4_28 (by first | rfl | assumption) ?_
    refine aw_if_ne 108 dX4_reads_101 rfl (fun c101 => ?_) (fun c101 => ?_)
    · refine aw_iconst dX4_reads_108 (by decide) (by decide) ?_
      refine aw_zreturn dX4_reads_109 rfl (Nat.le_refl _) (Nat.le_refl _) (by first | decide | omega) (by first | decide | omega) ?_
      first | exact ⟨am_ri (if_pos (by omega)).symm, rfl, R2, e3, e4, fr⟩ | exact ⟨am_ri (if_neg (by omega)).symm, rfl, R2, e3, e4, fr⟩
    · refine aw_iconst dX4_reads_104 (by decide) (by decide) ?_
      refine aw_goto 109 dX4_reads_105 rfl ?_
      refine aw_zreturn dX4_reads_109 rfl (Nat.le_refl _) (Nat.le_refl _) (by first | decide | omega) (by first | decide | omega) ?_
      first | exact ⟨am_ri (if_pos (by omega)).symm, rfl, R2, e3, e4, fr⟩ | exact ⟨am_ri (if_neg (by omega)).symm, rfl, R2, e3, e4, fr⟩
  refine sem_intro (by decide) rfl (Nat.le_of_ble_eq_true rfl) rfl ?_
  refine aw_aload_n dX4_reads_0 rfl ?_
  refine aw_aload_n dX4_reads_1 rfl ?_
  refine aw_putR dX4_reads_2 fp_RX4_9 (fun z => by first | rfl | cases z) (fun _ => ⟨rfl, rfl⟩) (by first | rfl | assumption) ?_
  rw [TT_q]
  refine aw_aload_n dX4_reads_5 rfl ?_
  refine aw_iload_n dX4_reads_6 rfl ?_
  refine aw_aload_n dX4_reads_7 rfl ?_
  refine aw_arraylength dX4_reads_8 (by first | rfl | assumption) rfl (by decide) ?_
  refine aw_mmin dX4_reads_9 mx_RX4_15 (by decide) (Nat.le_of_ble_eq_true rfl) (Nat.le_refl _) (Nat.le_refl _) ?_
  rw [if_neg (by omega)]
  refine aw_putI dX4_reads_12 fp_RX4_21 (by first | rfl | assumption) ?_
  refine aw_aload_n dX4_reads_15 rfl ?_
  refine aw_iconst dX4_reads_16 (by decide) (by decide) ?_
  refine aw_putI dX4_reads_17 fp_RX4_25 (by first | rfl | assumption) ?_
  refine aw_aload_n dX4_reads_20 rfl ?_
  refine aw_iconst dX4_reads_21 (by decide) (by decide) ?_
  refine aw_putI dX4_reads_22 fp_RX4_28 (by first | rfl | assumption) ?_
  refine aw_aload_n dX4_reads_25 rfl ?_
  refine aw_iconst dX4_reads_26 (by decide) (by decide) ?_
  refine aw_putI dX4_reads_27 fp_RX4_31 (by first | rfl | assumption) ?_
  refine aw_aload_n dX4_reads_30 rfl ?_
  refine aw_iconst dX4_reads_31 (by decide) (by decide) ?_
  refine aw_putI dX4_reads_32 fp_RX4_36 (by first | rfl | assumption) ?_
  refine aw_aload_n dX4_reads_35 rfl ?_
  refine aw_aload_n dX4_reads_36 rfl ?_
  refine aw_v1q dX4_reads_37 vl_RX4_39 (by first | rfl | assumption) (Nat.le_of_ble_eq_true rfl) (Nat.le_of_ble_eq_true rfl) (Nat.le_of_ble_eq_true rfl) (Nat.le_refl _) (Nat.le_refl _) (c_X4_readLaw (b := b) (l := l) ⟨by simp [am_up], by simp [am_up], by simp [am_up], fun j j0 j1 => by simp [am_up]; exact hT j j0 j1⟩ hb l0 hl) ?_
  intro v t' h1 hq
  obtain ⟨rfl, rfl, f1, ⟨g0, g1, g2, g3, g4⟩, f2⟩ := hq
  simp [am_up] at g0 g4
  have V1 : RV h1 (lwV b l) := ⟨fun k k0 k1 => by
    have hk : k = 0 ∨ k = 1 ∨ k = 2 ∨ k = 3 ∨ k = 4 := by omega
    rcases hk with rfl | rfl | rfl | rfl | rfl
    · exact g0
    · exact g1
    · exact g2
    · exact g3
    · exact g4, fun k k0 k1 => absurd (show k < 0 from k1) (by omega)⟩
  refine aw_iconst dX4_reads_40 (by decide) (by decide) ?_
  refine aw_istore (ls' := [_, _, _, _, _]) dX4_reads_41 (by decide) rfl ?_
  exact l_reads (h := h1) (N := l.toNat) hb hl (by omega) (S := psS b l) (fun hh i x1 x2 x3 => tl hh i x1 x2 (fun c y1 y2 => by rw [x3 c y1 y2, f2 c y1 (by omega), am_up_ne (by omega), am_up_ne (by omega), am_up_ne (by omega), am_up_ne (by omega), am_up_ne (by omega)])) l.toNat 0 (lw4 b l, lwV b l) h1 (by omega) f1 V1 a7 a8 (by show (0 : Int) ≤ 0; decide) (by show (0 : Int) ≤ 12; decide) (fun _ _ _ => rfl) rfl
theorem c_X8_sheet {σ : ST} (hC : CS h σ) (hW : WFst σ) : Sem M_X8_sheet [vR 0] (TT e q n L) h 0 0 (fun v t' h' => v = some (vI (sp_sheet σ).1) ∧ t' = TT e 13 n L ∧ CS h' (sp_sheet σ).2 ∧ ∀ c, 373 ≤ c → h' c = h c) := by
  obtain ⟨x1, x2, ⟨x3, x4⟩, x5, x6, x7, x8, x9⟩ := id hC
  have tb := hW.2.1
  have bb := hW.2.2.1
  obtain ⟨q1, q2, q3, q4⟩ := ps_b (b := (s_tap σ).2) tb.1
  have fin : ∀ (hh : Mem) (V : VW) (f : Int) (p : Nat × (Nat → VW)), (∀ c, KC c → c ≠ 0 → (c < 16 ∨ 20 < c) → c ≠ 238 → hh c = h c) → CSp hh p → hh 0 2 = 0 → hh 0 12 = h 0 12 → hh 0 11 = f → cV hh 16 = V → CS hh (σ.1, σ.2.1, σ.2.2.1, σ.2.2.2.1, (0, (s_tap σ).2), f, V, p, σ.2.2.2.2.2.2.2.2) := by
    intro hh V f p hf hp h2 h12 h11 hv
    refine ⟨fun i i0 i1 => ?_, by rw [h12]; exact x2, ⟨h2, fun j j0 j1 => absurd (show j < 0 from j1) (by omega)⟩, h11, hv, hp, fun k k0 k1 => ?_, ?_⟩
    · rw [hf 2 (by unfold KC; omega) (by omega) (by omega) (by omega), hf 3 (by unfold KC; omega) (by omega) (by omega) (by omega)]
      refine ⟨(x1 i i0 i1).1, (x1 i i0 i1).2.1, fun j j0 j1 => ?_⟩
      rw [hf (5 + i.toNat) (by unfold KC; omega) (by omega) (by omega) (by omega)]
      exact (x1 i i0 i1).2.2 j j0 j1
    · rw [cV_congr (fun j _ _ => by rw [hf (361 + 5 * k.toNat) (by unfold KC; omega) (by omega) (by omega) (by omega)]) (fun j i _ _ _ _ => by rw [hf (361 + 5 * k.toNat + j) (by unfold KC; omega) (by omega) (by omega) (by omega)])]
      exact x8 k k0 k1
    · rw [hf 371 (by unfold KC; omega) (by omega) (by omega) (by omega), hf 372 (by unfold KC; omega) (by omega) (by omega) (by omega)]
      exact x9
  unfold sp_sheet
  refine sem_intro (by decide) rfl (Nat.le_of_ble_eq_true rfl) rfl ?_
  refine aw_aload_n dX8_sheet_0 rfl ?_
  refine aw_getI dX8_sheet_1 fx_RX8_114 (by first | rfl | assumption) ?_
  refine aw_istore_n (ls' := [_, _]) dX8_sheet_4 (by decide) rfl ?_
  refine aw_aload_n dX8_sheet_5 rfl ?_
  refine aw_iconst dX8_sheet_6 (by decide) (by decide) ?_
  refine aw_putI dX8_sheet_7 fp_RX8_114 (by first | rfl | assumption) ?_
  refine aw_aload_n dX8_sheet_10 rfl ?_
  refine aw_getR1 dX8_sheet_11 fx_RX8_23 (by first | rfl | assumption) (by first | rfl | assumption) ?_
  refine aw_aload_n dX8_sheet_14 rfl ?_
  refine aw_getR1 dX8_sheet_15 fx_RX8_16 (by first | rfl | assumption) (by first | rfl | assumption) ?_
  rw [x3]
  refine aw_iload_n dX8_sheet_18 rfl ?_
  refine aw_aload_n dX8_sheet_19 rfl ?_
  refine aw_getR1 dX8_sheet_20 fx_RX8_34 (by first | rfl | assumption) (by first | rfl | assumption) ?_
  refine aw_v3q dX8_sheet_23 vl_RX8_119 (by first | rfl | assumption) (Nat.le_of_ble_eq_true rfl) (Nat.le_of_ble_eq_true rfl) (Nat.le_of_ble_eq_true rfl) (Nat.le_refl _) (Nat.le_refl _) (c_X4_reads (b := (s_tap σ).2) (l := (s_tap σ).1) (fun j j0 j1 => by rw [am_up_ne (by decide)]; exact x4 j j0 j1) bb tb.1 tb.2) ?_
  intro v t' h1 hq
  obtain ⟨rfl, rfl, f1, f2, f3, f4⟩ := hq
  have e0 : h1 0 = am_up h 0 2 0 0 := f4 0 (by decide) (by decide)
  have a2 : h1 0 2 = 0 := by rw [e0]; simp [am_up]
  have a12 : h1 0 12 = h 0 12 := by rw [e0]; simp [am_up]
  have a11 : h1 0 11 = s_flt σ := by rw [e0, ← x5]; simp [am_up]
  have fr : ∀ c, c ≠ 0 → c ≠ 14 → c < 21 ∨ 25 < c → h1 c = h c := fun c y1 y2 y3 => by rw [f4 c y2 y3, am_up_ne y1]
  refine aw_if_ne 51 dX8_sheet_26 rfl (fun c26 => ?_) (fun c26 => ?_)
  · refine aw_aload_n dX8_sheet_51 rfl ?_
    refine aw_getR1 dX8_sheet_52 fx_RX8_30 (by first | rfl | assumption) (by first | rfl | assumption) ?_
    refine aw_aload_n dX8_sheet_55 rfl ?_
    refine aw_getR1 dX8_sheet_56 fx_RX8_34 (by first | rfl | assumption) (by first | rfl | assumption) ?_
    refine aw_v1q dX8_sheet_59 vl_RX8_133 (by first | rfl | assumption) (Nat.le_of_ble_eq_true rfl) (Nat.le_of_ble_eq_true rfl) (Nat.le_of_ble_eq_true rfl) (Nat.le_refl _) (Nat.le_refl _) (c_X7_takeFrom sh_16 sh_21 (by decide) (by rw [f3]; exact q4)) ?_
    intro v t' h2 hq
    obtain ⟨rfl, rfl, g1, g2⟩ := hq
    refine aw_aload_n dX8_sheet_62 rfl ?_
    refine aw_getR1 dX8_sheet_63 fx_RX8_56 (by first | rfl | assumption) (by first | rfl | assumption) ?_
    refine aw_v0q dX8_sheet_66 vl_RX8_136 (by first | rfl | assumption) (Nat.le_of_ble_eq_true rfl) (Nat.le_of_ble_eq_true rfl) (Nat.le_of_ble_eq_true rfl) (Nat.le_refl _) (Nat.le_refl _) (c_X3_forget (p := s_pas σ) (CSp.fr (fun c d1 d2 => by rw [g2 c (by omega), fr c (by omega) (by omega) (by omega)]) x7)) ?_
    intro v t' h3 hq
    obtain ⟨rfl, rfl, g3, g4⟩ := hq
    have e16 : h3 16 0 = (psS (s_tap σ).2 (s_tap σ).1).2 0 0 := by rw [g4 16 (by decide), ← f3, ← cVc (h := h2), g1, cVc]
    refine aw_aload_n dX8_sheet_69 rfl ?_
    refine aw_getR1 dX8_sheet_70 fx_RX8_30 (by first | rfl | assumption) (by first | rfl | assumption) ?_
    refine aw_getI dX8_sheet_73 fx_RX8_139 (by first | rfl | assumption) ?_
    refine aw_ireturn dX8_sheet_76 rfl (Nat.le_refl _) (Nat.le_refl _) ?_
    have nf : psF (s_tap σ).2 (s_tap σ).1 = 0 := by
      by_cases y : psF (s_tap σ).2 (s_tap σ).1 = 0
      · exact y
      · rw [if_neg y] at c26; exact absurd rfl c26
    rw [if_pos nf]
    refine ⟨am_ri e16, rfl, ?_, fun c hc => by rw [g4 c (by omega), g2 c (by omega), fr c (by omega) (by omega) (by omega)]⟩
    exact fin h3 _ _ _ (fun c k1 k2 k3 k4 => by unfold KC at k1; rw [g4 c k4, g2 c (by omega), fr c k2 (by omega) (by omega)]) g3 (by rw [g4 0 (by decide), g2 0 (by decide)]; exact a2) (by rw [g4 0 (by decide), g2 0 (by decide)]; exact a12) (by rw [g4 0 (by decide), g2 0 (by decide)]; exact a11) (by rw [cV_congr (h := h2) (b := 16) (fun k _ _ => by rw [g4 16 (by omega)]) (fun j k _ _ _ _ => by rw [g4 (16 + j) (by omega)]), g1, f2])
  · refine aw_aload_n dX8_sheet_29 rfl ?_
    refine aw_aload_n dX8_sheet_30 rfl ?_
    refine aw_getR1 dX8_sheet_31 fx_RX8_23 (by first | rfl | assumption) (by first | rfl | assumption) ?_
    refine aw_getI dX8_sheet_34 fx_RX8_123 (by first | rfl | assumption) ?_
    rw [f1.2.2.1]
    refine aw_putI dX8_sheet_37 fp_RX8_126 (by first | rfl | assumption) ?_
    refine aw_ldc (n := -1000100) dX8_sheet_40 kc_RX8_129 (by decide) ?_
    refine aw_aload_n dX8_sheet_42 rfl ?_
    refine aw_getR1 dX8_sheet_43 fx_RX8_23 (by first | rfl | assumption) (by first | rfl | assumption) ?_
    refine aw_getI dX8_sheet_46 fx_RX8_130 (by first | rfl | assumption) ?_
    rw [show am_up h1 0 11 (psF (s_tap σ).2 (s_tap σ).1) 14 2 = h1 14 2 from rfl, f1.2.1]
    refine aw_isub dX8_sheet_49 (by omega) (by omega) ?_
    refine aw_ireturn dX8_sheet_50 rfl (Nat.le_refl _) (Nat.le_refl _) ?_
    have nf : ¬ psF (s_tap σ).2 (s_tap σ).1 = 0 := fun y => by rw [if_pos y] at c26; exact absurd c26 (by decide)
    rw [if_neg nf]
    refine ⟨rfl, rfl, ?_, fun c hc => by rw [am_up_ne (by omega), fr c (by omega) (by omega) (by omega)]⟩
    have z := fin (am_up h1 0 11 (psF (s_tap σ).2 (s_tap σ).1)) (s_liv σ) (psF (s_tap σ).2 (s_tap σ).1) (s_pas σ) (fun c k1 k2 k3 k4 => by unfold KC at k1; rw [am_up_ne k2, fr c k2 (by omega) (by omega)]) (CSp.fr (fun c d1 d2 => by rw [am_up_ne (by omega), fr c (by omega) (by omega) (by omega)]) x7) (by simp [am_up]; exact a2) (by simp [am_up]; exact a12) (by simp [am_up]) (by rw [cV_congr (h := h) (b := 16) (fun k _ _ => by rw [am_up_ne (by omega), fr 16 (by omega) (by omega) (by omega)]) (fun j k _ _ _ _ => by rw [am_up_ne (by omega), fr (16 + j) (by omega) (by omega) (by omega)])]; exact x6)
    exact z
end RED
