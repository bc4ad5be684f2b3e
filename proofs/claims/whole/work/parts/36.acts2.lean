def sp_settle (σ : ST) : Int × ST := if s_liv σ 0 0 = 0 then (-1000002, σ) else if 9999 < s_liv σ 0 4 + (settles false (s_liv σ)).2.1 then (-1000003, σ) else ((settles false (s_liv σ)).2.1, wLP σ (addR (settles false (s_liv σ)).1 (settles false (s_liv σ)).2.1) (pushP (s_pas σ) (s_liv σ)))
/-- one place of a sheet is another -/
def setV (V : VW) (j0 : Nat) (i x : Int) : VW := fun j k => if j = j0 ∧ k = i then x else V j k
def sp_number (σ : ST) (i k : Int) : Int × ST := if ¬ (0 ≤ i ∧ i < s_liv σ 0 0) ∨ s_liv σ 1 i = 5 ∨ ¬ ((s_liv σ 1 i = 4 ∧ 1 ≤ k ∧ k ≤ 20) ∨ (s_liv σ 1 i ≠ 4 ∧ 0 ≤ k ∧ k < s_liv σ 0 0)) then (-1000001, σ) else (s_liv σ 2 i, wLP σ (setV (s_liv σ) 2 i k) (pushP (s_pas σ) (s_liv σ)))
def sp_rule (σ : ST) (w v : Int) : Int × ST := if s_liv σ 0 0 = 0 then (-1000002, σ) else if (w = 0 ∧ 4 ≤ v ∧ v ≤ 20) ∨ (w = 1 ∧ 1 ≤ v ∧ v ≤ 5) ∨ (w = 2 ∧ 1 ≤ v ∧ v ≤ 87) then (s_liv σ 0 (w + 1), wLP σ (setV (s_liv σ) 0 (w + 1) v) (pushP (s_pas σ) (s_liv σ))) else (-1000001, σ)
def sp_undo (σ : ST) : Int × ST := if (s_pas σ).1 = 0 then (-1000002, σ) else (((s_pas σ).1 : Int) - 1, wLP σ ((s_pas σ).2 ((s_pas σ).1 - 1)) (popP (s_pas σ)))
theorem cV_set {h : Mem} {a j0 : Nat} {i x : Int} (hj : 1 ≤ j0 ∧ j0 ≤ 4) (h0 : 0 ≤ i) (h1 : i < h a 0) : cV (am_up h (a + j0) i x) a = setV (cV h a) j0 i x := by
  rw [cV_col (h := h) (j0 := j0) (F := fun k => if k = i then x else h (a + j0) k) hj (fun c hc => am_up_ne hc) (fun k hk => by unfold am_up; by_cases e : (k : Int) = i; rw [if_pos ⟨rfl, e⟩, if_pos e]; rw [if_neg (by omega), if_neg e])]
  funext j k
  unfold setV
  by_cases e : j = j0 ∧ k = i
  · rw [if_pos e, if_pos ⟨e.1, by omega, by rw [cVc]; omega⟩, if_pos e.2]
  · rw [if_neg e]
    by_cases e2 : j = j0 ∧ 0 ≤ k ∧ k < cV h a 0 0
    · rw [if_pos e2, if_neg (by omega), e2.1]
      rw [cVc] at e2
      exact (cut_j (V := fun j k => h (a + j) k) (j := j0) (by omega) (by omega) e2.2.1 e2.2.2).symm
    · rw [if_neg e2]
theorem cV_setS {h : Mem} {a : Nat} {i x : Int} (h0 : 1 ≤ i) (h1 : i ≤ 4) : cV (am_up h a i x) a = setV (cV h a) 0 i x := by
  have ea : ∀ j : Int, j ≠ i → am_up h a i x a j = h a j := fun j hj => by simp [am_up, hj]
  funext j k
  unfold setV
  by_cases hj : j = 0
  · subst hj
    by_cases e : k = i
    · rw [if_pos ⟨rfl, e⟩, e, cV0 (by omega) (by omega)]; simp [am_up]
    · rw [if_neg (by omega)]
      unfold cV cut
      rw [if_pos rfl, if_pos rfl]
      show (if _ then am_up h a i x (a + 0) k else 0) = (if _ then h (a + 0) k else 0)
      rw [show am_up h a i x (a + 0) k = h (a + 0) k from ea k e]
  · rw [if_neg (by omega)]
    unfold cV cut
    rw [if_neg hj, if_neg hj]
    show (if j < 5 ∧ 0 ≤ k ∧ k < am_up h a i x (a + 0) 0 then am_up h a i x (a + j) k else 0) = (if j < 5 ∧ 0 ≤ k ∧ k < h (a + 0) 0 then h (a + j) k else 0)
    rw [show am_up h a i x (a + 0) 0 = h (a + 0) 0 from ea 0 (by omega), am_up_ne (by omega)]
section ACT2
variable {e q n L : Nat} {h : Mem} {σ : ST}
set_option maxHeartbeats 1000000 in
theorem c_X8_settle (hC : CS h σ) (hW : WFst σ) (hro : RO h) : Sem M_X8_settle [vR 0] (TT e q n L) h 0 0 (PC (sp_settle σ) h (TT e q n L)) := by
  have eV : cV h 16 = s_liv σ := hC.2.2.2.2.1
  have e0 : h 16 0 = s_liv σ 0 0 := by rw [← eV, cVc]
  have e4 : h 16 4 = s_liv σ 0 4 := by rw [← eV, cVr]
  have hcn := wf_cnt hW.2.2.2.1
  unfold sp_settle
  refine sem_intro (by decide) rfl (Nat.le_of_ble_eq_true rfl) rfl ?_
  refine aw_aload_n dX8_settle_0 rfl ?_
  refine aw_v0i dX8_settle_1 vl_RX8_142 (by first | rfl | assumption) (Nat.le_of_ble_eq_true rfl) (Nat.le_of_ble_eq_true rfl) (Nat.le_of_ble_eq_true rfl) (Nat.le_refl _) (Nat.le_refl _) (c_X8_isWithoutSheet) ?_
  refine aw_ifB_eq 10 dX8_settle_4 rfl (fun c4 => ?_) (fun c4 => ?_)
  · have hL := wf_liv hW.2.2.2.1 (by omega)
    have hok := settles_ok (stop := false) hL.1
    refine aw_aload_n dX8_settle_10 rfl ?_
    refine aw_getR1 dX8_settle_11 fx_RX8_34 (by first | rfl | assumption) (by first | rfl | assumption) ?_
    refine aw_aload_n dX8_settle_14 rfl ?_
    refine aw_getR1 dX8_settle_15 fx_RX8_30 (by first | rfl | assumption) (by first | rfl | assumption) ?_
    refine aw_v1q dX8_settle_18 vl_RX8_133 (by first | rfl | assumption) (Nat.le_of_ble_eq_true rfl) (Nat.le_of_ble_eq_true rfl) (Nat.le_of_ble_eq_true rfl) (Nat.le_refl _) (Nat.le_refl _) (c_X7_takeFrom sh_21 sh_16 (by decide) (by omega)) ?_
    intro v t' h1 hq
    obtain ⟨rfl, rfl, f1, f2⟩ := hq
    rw [eV] at f1
    refine aw_aload_n dX8_settle_21 rfl ?_
    refine aw_getR1 dX8_settle_22 fx_RX8_40 (by first | rfl | assumption) (by first | rfl | assumption) ?_
    refine aw_aload_n dX8_settle_25 rfl ?_
    refine aw_getR1 dX8_settle_26 fx_RX8_34 (by first | rfl | assumption) (by first | rfl | assumption) ?_
    refine aw_iconst dX8_settle_29 (by decide) (by decide) ?_
    refine aw_v2q dX8_settle_30 vl_RX8_157 (by first | rfl | assumption) (Nat.le_of_ble_eq_true rfl) (Nat.le_of_ble_eq_true rfl) (Nat.le_of_ble_eq_true rfl) (Nat.le_refl _) (Nat.le_refl _) (c_X6_bringToRest (stop := false) sh_21 isSe (by decide) (fun j j0 j1 => by rw [f2 _ (by decide)]; exact hro j j0 j1) (by rw [f1]; exact hL.1) rfl) ?_
    intro v t' h2 hq
    obtain ⟨rfl, rfl, g1, g2, g3, g4, g5, g6⟩ := hq
    rw [f1] at g1 g2
    have k16 : ∀ c, c < 21 ∨ 231 < c → h2 c = h c := fun c hc => by rw [g6 c (by omega) (by omega) (by omega), f2 c (by omega)]
    refine aw_aload_n dX8_settle_33 rfl ?_
    refine aw_getR1 dX8_settle_34 fx_RX8_30 (by first | rfl | assumption) (by first | rfl | assumption) ?_
    refine aw_getI dX8_settle_37 fx_RX8_147 (by first | rfl | assumption) ?_
    refine aw_aload_n dX8_settle_40 rfl ?_
    refine aw_getR1 dX8_settle_41 fx_RX8_40 (by first | rfl | assumption) (by first | rfl | assumption) ?_
    refine aw_getI dX8_settle_44 fx_RX8_161 (by first | rfl | assumption) ?_
    rw [g2, show h2 16 4 = h 16 4 by rw [k16 16 (by omega)]]
    refine aw_iadd dX8_settle_47 (by omega) (by omega) ?_
    refine aw_sipush dX8_settle_48 (by decide) (by decide) ?_
    refine aw_icmp_le 57 dX8_settle_51 rfl (fun c51 => ?_) (fun c51 => ?_)
    · refine aw_aload_n dX8_settle_57 rfl ?_
      refine aw_getR1 dX8_settle_58 fx_RX8_56 (by first | rfl | assumption) (by first | rfl | assumption) ?_
      refine aw_aload_n dX8_settle_61 rfl ?_
      refine aw_getR1 dX8_settle_62 fx_RX8_30 (by first | rfl | assumption) (by first | rfl | assumption) ?_
      refine aw_v1q dX8_settle_65 vl_RX8_150 (by first | rfl | assumption) (Nat.le_of_ble_eq_true rfl) (Nat.le_of_ble_eq_true rfl) (Nat.le_of_ble_eq_true rfl) (Nat.le_refl _) (Nat.le_refl _) (c_X3_remember (hC.2.2.2.2.2.1.fr (fun c _ _ => k16 c (by omega))) (by rw [k16 16 (by omega)]; omega)) ?_
      intro v t' h3 hq
      obtain ⟨rfl, rfl, f3, f4⟩ := hq
      have eV2 : cV h2 16 = s_liv σ := by rw [← eV]; exact cV_congr (fun k _ _ => by rw [k16 _ (by omega)]) (fun j k _ _ _ _ => by rw [k16 _ (by omega)])
      rw [eV2] at f3
      have e21 : cV h3 21 = (settles false (s_liv σ)).1 := by rw [← g1]; exact cV_congr (fun k _ _ => by rw [f4 _ (by omega)]) (fun j k _ _ _ _ => by rw [f4 _ (by omega)])
      refine aw_aload_n dX8_settle_68 rfl ?_
      refine aw_getR1 dX8_settle_69 fx_RX8_30 (by first | rfl | assumption) (by first | rfl | assumption) ?_
      refine aw_aload_n dX8_settle_72 rfl ?_
      refine aw_getR1 dX8_settle_73 fx_RX8_34 (by first | rfl | assumption) (by first | rfl | assumption) ?_
      refine aw_v1q dX8_settle_76 vl_RX8_133 (by first | rfl | assumption) (Nat.le_of_ble_eq_true rfl) (Nat.le_of_ble_eq_true rfl) (Nat.le_of_ble_eq_true rfl) (Nat.le_refl _) (Nat.le_refl _) (c_X7_takeFrom sh_16 sh_21 (by decide) (by rw [← cVc (h := h3), e21, hok.2.2.2.2.2]; omega)) ?_
      intro v t' h4 hq
      obtain ⟨rfl, rfl, f5, f6⟩ := hq
      rw [e21] at f5
      have k26 : h4 26 3 = (settles false (s_liv σ)).2.1 := by rw [f6 _ (by omega), f4 _ (by omega), g2]
      have k164 : h4 16 4 = s_liv σ 0 4 := by rw [← cVr (h := h4), f5, hok.2.2.2.2.2]
      refine aw_aload_n dX8_settle_79 rfl ?_
      refine aw_getR1 dX8_settle_80 fx_RX8_30 (by first | rfl | assumption) (by first | rfl | assumption) ?_
      refine aw_dup dX8_settle_83 rfl ?_
      refine aw_getI dX8_settle_84 fx_RX8_147 (by first | rfl | assumption) ?_
      refine aw_aload_n dX8_settle_87 rfl ?_
      refine aw_getR1 dX8_settle_88 fx_RX8_40 (by first | rfl | assumption) (by first | rfl | assumption) ?_
      refine aw_getI dX8_settle_91 fx_RX8_161 (by first | rfl | assumption) ?_
      rw [k26, k164]
      refine aw_iadd dX8_settle_94 (by omega) (by omega) ?_
      refine aw_putI dX8_settle_95 fp_RX8_147 (by first | rfl | assumption) ?_
      refine aw_aload_n dX8_settle_98 rfl ?_
      refine aw_getR1 dX8_settle_99 fx_RX8_40 (by first | rfl | assumption) (by first | rfl | assumption) ?_
      refine aw_getI dX8_settle_102 fx_RX8_161 (by first | rfl | assumption) ?_
      rw [am_up_ne (by decide), k26]
      refine aw_ireturn dX8_settle_105 rfl (Nat.le_refl _) (Nat.le_refl _) ?_
      rw [if_neg (by omega), if_neg (by omega)]
      exact ⟨rfl, rfl, hC.mkI (fun c hc => by rw [am_up_ne (by omega), f6 c (by omega), f4 c (by omega), k16 c (by omega)]) (by rw [cV_addR (r := (settles false (s_liv σ)).2.1) (by rw [k164]), f5]) (f3.fr (fun c d0 d1 => by rw [am_up_ne (by omega), f6 c (by omega)])), fun c hc => by rw [am_up_ne (by omega), f6 c (by omega), f4 c (by omega), k16 c (by omega)]⟩
    · refine aw_ldc (n := -1000003) dX8_settle_54 kc_RX8_118 (by decide) ?_
      refine aw_ireturn dX8_settle_56 rfl (Nat.le_refl _) (Nat.le_refl _) ?_
      rw [if_neg (by omega), if_pos (by omega)]
      exact ⟨rfl, rfl, hC.fr (fun c hc => k16 c (by unfold KC at hc; omega)), fun c hc => k16 c (by omega)⟩
  · refine aw_ldc (n := -1000002) dX8_settle_7 kc_RX8_146 (by decide) ?_
    refine aw_ireturn dX8_settle_9 rfl (Nat.le_refl _) (Nat.le_refl _) ?_
    rw [if_pos (by omega)]
    exact ⟨rfl, rfl, hC, fun _ _ => rfl⟩
set_option maxHeartbeats 1000000 in
theorem c_X8_number {i k : Int} (hC : CS h σ) (hW : WFst σ) : Sem M_X8_number [vR 0, vI i, vI k] (TT e q n L) h 0 0 (PC (sp_number σ i k) h (TT e q n L)) := by
  have eV : cV h 16 = s_liv σ := hC.2.2.2.2.1
  have e0 : h 16 0 = s_liv σ 0 0 := by rw [← eV, cVc]
  have hcn := wf_cnt hW.2.2.2.1
  have k1 : 0 ≤ i ∧ i < h 16 0 → h (16 + 1) i = s_liv σ 1 i ∧ h (16 + 2) i = s_liv σ 2 i := fun z => ⟨by rw [← eV, cV1 z.1 z.2], by rw [← eV, cV2 z.1 z.2]⟩
  unfold sp_number
  refine sem_intro (by decide) rfl (Nat.le_of_ble_eq_true rfl) rfl ?_
  refine aw_aload_n dX8_number_0 rfl ?_
  refine aw_getR1 dX8_number_1 fx_RX8_30 (by first | rfl | assumption) (by first | rfl | assumption) ?_
  refine aw_iload_n dX8_number_4 rfl ?_
  refine aw_v1i dX8_number_5 vl_RX8_162 (by first | rfl | assumption) (Nat.le_of_ble_eq_true rfl) (Nat.le_of_ble_eq_true rfl) (Nat.le_of_ble_eq_true rfl) (Nat.le_refl _) (Nat.le_refl _) (c_X7_holds (by first | assumption | exact sh_16 | exact sh_21)) ?_
  refine aw_ifB_eq 44 dX8_number_8 rfl (fun c8 => ?_) (fun c8 => ?_)
  · refine aw_ldc (n := -1000001) dX8_number_44 kc_RX8_80 (by decide) ?_
    refine aw_ireturn dX8_number_46 rfl (Nat.le_refl _) (Nat.le_refl _) ?_
    first | rw [if_pos (by omega)] | (have k2 := k1 c8; rw [if_pos (by omega)])
    exact ⟨rfl, rfl, hC, fun _ _ => rfl⟩
  · refine aw_aload_n dX8_number_11 rfl ?_
    refine aw_getR1 dX8_number_12 fx_RX8_30 (by first | rfl | assumption) (by first | rfl | assumption) ?_
    refine aw_getR1 dX8_number_15 fx_RX8_165 (by first | rfl | assumption) (by first | rfl | assumption) ?_
    refine aw_iload_n dX8_number_18 rfl ?_
    refine aw_iaload dX8_number_19 (by first | rfl | assumption) (by omega) (by omega) ?_
    refine aw_iconst dX8_number_20 (by decide) (by decide) ?_
    refine aw_icmp_eq 44 dX8_number_21 rfl (fun c21 => ?_) (fun c21 => ?_)
    · refine aw_ldc (n := -1000001) dX8_number_44 kc_RX8_80 (by decide) ?_
      refine aw_ireturn dX8_number_46 rfl (Nat.le_refl _) (Nat.le_refl _) ?_
      first | rw [if_pos (by omega)] | (have k2 := k1 c8; rw [if_pos (by omega)])
      exact ⟨rfl, rfl, hC, fun _ _ => rfl⟩
    · refine aw_aload_n dX8_number_24 rfl ?_
      refine aw_getR1 dX8_number_25 fx_RX8_30 (by first | rfl | assumption) (by first | rfl | assumption) ?_
      refine aw_aload_n dX8_number_28 rfl ?_
      refine aw_getR1 dX8_number_29 fx_RX8_30 (by first | rfl | assumption) (by first | rfl | assumption) ?_
      refine aw_getR1 dX8_number_32 fx_RX8_165 (by first | rfl | assumption) (by first | rfl | assumption) ?_
      refine aw_iload_n dX8_number_35 rfl ?_
      refine aw_iaload dX8_number_36 (by first | rfl | assumption) (by omega) (by omega) ?_
      refine aw_iload_n dX8_number_37 rfl ?_
      refine aw_v2i dX8_number_38 vl_RX8_168 (by first | rfl | assumption) (Nat.le_of_ble_eq_true rfl) (Nat.le_of_ble_eq_true rfl) (Nat.le_of_ble_eq_true rfl) (Nat.le_refl _) (Nat.le_refl _) (c_X7_mayBeNumber (x := if mbn (h 16 0) (h (16 + 1) i) k then 1 else 0) sh_16 (by by_cases z : mbn (h 16 0) (h (16 + 1) i) k; exact Or.inl ⟨z, if_pos z⟩; exact Or.inr ⟨z, if_neg z⟩)) ?_
      refine aw_ifB_ne 47 dX8_number_41 rfl (fun c41 => ?_) (fun c41 => ?_)
      · have k2 := k1 c8
        refine aw_aload_n dX8_number_47 rfl ?_
        refine aw_getR1 dX8_number_48 fx_RX8_56 (by first | rfl | assumption) (by first | rfl | assumption) ?_
        refine aw_aload_n dX8_number_51 rfl ?_
        refine aw_getR1 dX8_number_52 fx_RX8_30 (by first | rfl | assumption) (by first | rfl | assumption) ?_
        refine aw_v1q dX8_number_55 vl_RX8_150 (by first | rfl | assumption) (Nat.le_of_ble_eq_true rfl) (Nat.le_of_ble_eq_true rfl) (Nat.le_of_ble_eq_true rfl) (Nat.le_refl _) (Nat.le_refl _) (c_X3_remember hC.2.2.2.2.2.1 (by omega)) ?_
        intro v t' h1 hq
        obtain ⟨rfl, rfl, f1, f2⟩ := hq
        rw [eV] at f1
        have eV1 : cV h1 16 = s_liv σ := by rw [← eV]; exact cV_congr (fun k _ _ => by rw [f2 _ (by omega)]) (fun j k _ _ _ _ => by rw [f2 _ (by omega)])
        refine aw_aload_n dX8_number_58 rfl ?_
        refine aw_getR1 dX8_number_59 fx_RX8_30 (by first | rfl | assumption) (by first | rfl | assumption) ?_
        refine aw_getR1 dX8_number_62 fx_RX8_171 (by first | rfl | assumption) (by first | rfl | assumption) ?_
        refine aw_iload_n dX8_number_65 rfl ?_
        refine aw_iaload dX8_number_66 (by first | rfl | assumption) (by omega) (by omega) ?_
        refine aw_istore_n (ls' := [_, _, _, _]) dX8_number_67 (by decide) rfl ?_
        refine aw_aload_n dX8_number_68 rfl ?_
        refine aw_getR1 dX8_number_69 fx_RX8_30 (by first | rfl | assumption) (by first | rfl | assumption) ?_
        refine aw_getR1 dX8_number_72 fx_RX8_171 (by first | rfl | assumption) (by first | rfl | assumption) ?_
        refine aw_iload_n dX8_number_75 rfl ?_
        refine aw_iload_n dX8_number_76 rfl ?_
        refine aw_iastore dX8_number_77 (by first | rfl | assumption) (by omega) (by omega) (by omega) ?_
        refine aw_iload_n dX8_number_78 rfl ?_
        refine aw_ireturn dX8_number_79 rfl (Nat.le_refl _) (Nat.le_refl _) ?_
        rw [if_neg (by omega)]
        refine ⟨am_ri (by show h1 18 i = _; rw [f2 18 (by omega)]; exact k2.2), rfl, hC.mkI (fun c hc => by rw [am_up_ne (by omega), f2 c (by omega)]) ?_ (f1.fr (fun c d0 d1 => by rw [am_up_ne (by omega)])), fun c hc => by rw [am_up_ne (by omega), f2 c (by omega)]⟩
        rw [show cV (am_up h1 18 i k) 16 = setV (cV h1 16) 2 i k from cV_set (j0 := 2) (by omega) (by omega) (by rw [f2 16 (by omega)]; omega), eV1]
      · refine aw_ldc (n := -1000001) dX8_number_44 kc_RX8_80 (by decide) ?_
        refine aw_ireturn dX8_number_46 rfl (Nat.le_refl _) (Nat.le_refl _) ?_
        first | rw [if_pos (by omega)] | (have k2 := k1 c8; rw [if_pos (by omega)])
        exact ⟨rfl, rfl, hC, fun _ _ => rfl⟩
set_option maxHeartbeats 1000000 in
theorem c_change {i x : Int} {M : MI} (hC : CS h σ) (hW : WFst σ) (h0 : s_liv σ 0 0 ≠ 0) (i1 : 1 ≤ i) (i4 : i ≤ 3)
    (hM : M = M_X8_changeWidth ∧ i = 1 ∨ M = M_X8_changeLines ∧ i = 2 ∨ M = M_X8_changeFirst ∧ i = 3) :
    Sem M [vR 0, vI x] (TT e q n L) h 0 0 (fun v t' h' => v = some (vI (s_liv σ 0 i)) ∧ t' = TT e q n L ∧ CS h' (wLP σ (setV (s_liv σ) 0 i x) (pushP (s_pas σ) (s_liv σ))) ∧ ∀ c, 373 ≤ c → h' c = h c) := by
  have eV : cV h 16 = s_liv σ := hC.2.2.2.2.1
  have e0 : h 16 0 = s_liv σ 0 0 := by rw [← eV, cVc]
  have hcn := wf_cnt hW.2.2.2.1
  have fin : ∀ h1 : Mem, CSp h1 (pushP (s_pas σ) (s_liv σ)) → (∀ c, c < 238 ∨ 359 < c → h1 c = h c) → CS (am_up h1 16 i x) (wLP σ (setV (s_liv σ) 0 i x) (pushP (s_pas σ) (s_liv σ))) ∧ (∀ c, 373 ≤ c → am_up h1 16 i x c = h c) ∧ h1 16 i = s_liv σ 0 i := by
    intro h1 f1 f2
    have eV1 : cV h1 16 = s_liv σ := by rw [← eV]; exact cV_congr (fun k _ _ => by rw [f2 _ (by omega)]) (fun j k _ _ _ _ => by rw [f2 _ (by omega)])
    refine ⟨hC.mkI (fun c hc => by rw [am_up_ne (by omega), f2 c (by omega)]) (by rw [cV_setS i1 (by omega), eV1]) (f1.fr (fun c d0 d1 => by rw [am_up_ne (by omega)])), fun c hc => by rw [am_up_ne (by omega), f2 c (by omega)], ?_⟩
    rw [← eV1, cV0 (by omega) (by omega)]
  rcases hM with ⟨rfl, rfl⟩ | ⟨rfl, rfl⟩ | ⟨rfl, rfl⟩
  · refine sem_intro (by decide) rfl (Nat.le_of_ble_eq_true rfl) rfl ?_
    refine aw_aload_n dX8_changeWidth_0 rfl ?_
    refine aw_getR1 dX8_changeWidth_1 fx_RX8_56 (by first | rfl | assumption) (by first | rfl | assumption) ?_
    refine aw_aload_n dX8_changeWidth_4 rfl ?_
    refine aw_getR1 dX8_changeWidth_5 fx_RX8_30 (by first | rfl | assumption) (by first | rfl | assumption) ?_
    refine aw_v1q dX8_changeWidth_8 vl_RX8_150 (by first | rfl | assumption) (Nat.le_of_ble_eq_true rfl) (Nat.le_of_ble_eq_true rfl) (Nat.le_of_ble_eq_true rfl) (Nat.le_refl _) (Nat.le_refl _) (c_X3_remember hC.2.2.2.2.2.1 (by omega)) ?_
    intro v t' h1 hq
    obtain ⟨rfl, rfl, f1, f2⟩ := hq
    rw [eV] at f1
    have ff := fin h1 f1 f2
    refine aw_aload_n dX8_changeWidth_11 rfl ?_
    refine aw_getR1 dX8_changeWidth_12 fx_RX8_30 (by first | rfl | assumption) (by first | rfl | assumption) ?_
    refine aw_getI dX8_changeWidth_15 fx_RX8_327 (by first | rfl | assumption) ?_
    refine aw_istore_n (ls' := [_, _, _]) dX8_changeWidth_18 (by decide) rfl ?_
    refine aw_aload_n dX8_changeWidth_19 rfl ?_
    refine aw_getR1 dX8_changeWidth_20 fx_RX8_30 (by first | rfl | assumption) (by first | rfl | assumption) ?_
    refine aw_iload_n dX8_changeWidth_23 rfl ?_
    refine aw_putI dX8_changeWidth_24 fp_RX8_327 (by first | rfl | assumption) ?_
    refine aw_iload_n dX8_changeWidth_27 rfl ?_
    refine aw_ireturn dX8_changeWidth_28 rfl (Nat.le_refl _) (Nat.le_refl _) ?_
    exact ⟨am_ri ff.2.2, rfl, ff.1, ff.2.1⟩
  · refine sem_intro (by decide) rfl (Nat.le_of_ble_eq_true rfl) rfl ?_
    refine aw_aload_n dX8_changeLines_0 rfl ?_
    refine aw_getR1 dX8_changeLines_1 fx_RX8_56 (by first | rfl | assumption) (by first | rfl | assumption) ?_
    refine aw_aload_n dX8_changeLines_4 rfl ?_
    refine aw_getR1 dX8_changeLines_5 fx_RX8_30 (by first | rfl | assumption) (by first | rfl | assumption) ?_
    refine aw_v1q dX8_changeLines_8 vl_RX8_150 (by first | rfl | assumption) (Nat.le_of_ble_eq_true rfl) (Nat.le_of_ble_eq_true rfl) (Nat.le_of_ble_eq_true rfl) (Nat.le_refl _) (Nat.le_refl _) (c_X3_remember hC.2.2.2.2.2.1 (by omega)) ?_
    intro v t' h1 hq
    obtain ⟨rfl, rfl, f1, f2⟩ := hq
    rw [eV] at f1
    have ff := fin h1 f1 f2
    refine aw_aload_n dX8_changeLines_11 rfl ?_
    refine aw_getR1 dX8_changeLines_12 fx_RX8_30 (by first | rfl | assumption) (by first | rfl | assumption) ?_
    refine aw_getI dX8_changeLines_15 fx_RX8_330 (by first | rfl | assumption) ?_
    refine aw_istore_n (ls' := [_, _, _]) dX8_changeLines_18 (by decide) rfl ?_
    refine aw_aload_n dX8_changeLines_19 rfl ?_
    refine aw_getR1 dX8_changeLines_20 fx_RX8_30 (by first | rfl | assumption) (by first | rfl | assumption) ?_
    refine aw_iload_n dX8_changeLines_23 rfl ?_
    refine aw_putI dX8_changeLines_24 fp_RX8_330 (by first | rfl | assumption) ?_
    refine aw_iload_n dX8_changeLines_27 rfl ?_
    refine aw_ireturn dX8_changeLines_28 rfl (Nat.le_refl _) (Nat.le_refl _) ?_
    exact ⟨am_ri ff.2.2, rfl, ff.1, ff.2.1⟩
  · refine sem_intro (by decide) rfl (Nat.le_of_ble_eq_true rfl) rfl ?_
    refine aw_aload_n dX8_changeFirst_0 rfl ?_
    refine aw_getR1 dX8_changeFirst_1 fx_RX8_56 (by first | rfl | assumption) (by first | rfl | assumption) ?_
    refine aw_aload_n dX8_changeFirst_4 rfl ?_
    refine aw_getR1 dX8_changeFirst_5 fx_RX8_30 (by first | rfl | assumption) (by first | rfl | assumption) ?_
    refine aw_v1q dX8_changeFirst_8 vl_RX8_150 (by first | rfl | assumption) (Nat.le_of_ble_eq_true rfl) (Nat.le_of_ble_eq_true rfl) (Nat.le_of_ble_eq_true rfl) (Nat.le_refl _) (Nat.le_refl _) (c_X3_remember hC.2.2.2.2.2.1 (by omega)) ?_
    intro v t' h1 hq
    obtain ⟨rfl, rfl, f1, f2⟩ := hq
    rw [eV] at f1
    have ff := fin h1 f1 f2
    refine aw_aload_n dX8_changeFirst_11 rfl ?_
    refine aw_getR1 dX8_changeFirst_12 fx_RX8_30 (by first | rfl | assumption) (by first | rfl | assumption) ?_
    refine aw_getI dX8_changeFirst_15 fx_RX8_332 (by first | rfl | assumption) ?_
    refine aw_istore_n (ls' := [_, _, _]) dX8_changeFirst_18 (by decide) rfl ?_
    refine aw_aload_n dX8_changeFirst_19 rfl ?_
    refine aw_getR1 dX8_changeFirst_20 fx_RX8_30 (by first | rfl | assumption) (by first | rfl | assumption) ?_
    refine aw_iload_n dX8_changeFirst_23 rfl ?_
    refine aw_putI dX8_changeFirst_24 fp_RX8_332 (by first | rfl | assumption) ?_
    refine aw_iload_n dX8_changeFirst_27 rfl ?_
    refine aw_ireturn dX8_changeFirst_28 rfl (Nat.le_refl _) (Nat.le_refl _) ?_
    exact ⟨am_ri ff.2.2, rfl, ff.1, ff.2.1⟩
set_option maxHeartbeats 1000000 in
theorem c_X8_rule {w x : Int} (hC : CS h σ) (hW : WFst σ) : Sem M_X8_rule [vR 0, vI w, vI x] (TT e q n L) h 0 0 (PC (sp_rule σ w x) h (TT e q n L)) := by
  have eV : cV h 16 = s_liv σ := hC.2.2.2.2.1
  have e0 : h 16 0 = s_liv σ 0 0 := by rw [← eV, cVc]
  unfold sp_rule
  refine sem_intro (by decide) rfl (Nat.le_of_ble_eq_true rfl) rfl ?_
  refine aw_aload_n dX8_rule_0 rfl ?_
  refine aw_v0i dX8_rule_1 vl_RX8_142 (by first | rfl | assumption) (Nat.le_of_ble_eq_true rfl) (Nat.le_of_ble_eq_true rfl) (Nat.le_of_ble_eq_true rfl) (Nat.le_refl _) (Nat.le_refl _) (c_X8_isWithoutSheet) ?_
  refine aw_ifB_eq 10 dX8_rule_4 rfl (fun c4 => ?_) (fun c4 => ?_)
  · refine aw_iload_n dX8_rule_10 rfl ?_
    refine aw_table 101 dX8_rule_11 rfl (fun c11 => ?_) (fun g11a g11b => ?_)
    · refine aw_ldc (n := -1000001) dX8_rule_101 kc_RX8_80 (by decide) ?_
      refine aw_ireturn dX8_rule_103 rfl (Nat.le_refl _) (Nat.le_refl _) ?_
      first | (rw [if_neg (by omega), if_neg (by omega)]; exact ⟨rfl, rfl, hC, fun _ _ => rfl⟩) | (rw [if_neg (by omega), if_pos (by omega), c11]; exact ⟨rfl, rfl, f1, f2⟩)
    · rcases tcs_0_2 g11a g11b with c11 | c11 | c11
      · refine aw_tableIn 36 dX8_rule_11 g11a g11b (by rw [c11]; rfl) rfl ?_
        refine aw_iload_n dX8_rule_36 rfl ?_
        refine aw_iconst dX8_rule_37 (by decide) (by decide) ?_
        refine aw_icmp_lt 47 dX8_rule_38 rfl (fun c38 => ?_) (fun c38 => ?_)
        · refine aw_ldc (n := -1000001) dX8_rule_47 kc_RX8_80 (by decide) ?_
          refine aw_goto 57 dX8_rule_49 rfl ?_
          refine aw_ireturn dX8_rule_57 rfl (Nat.le_refl _) (Nat.le_refl _) ?_
          first | (rw [if_neg (by omega), if_neg (by omega)]; exact ⟨rfl, rfl, hC, fun _ _ => rfl⟩) | (rw [if_neg (by omega), if_pos (by omega), c11]; exact ⟨rfl, rfl, f1, f2⟩)
        · refine aw_iload_n dX8_rule_41 rfl ?_
          refine aw_bipush dX8_rule_42 (by decide) (by decide) ?_
          refine aw_icmp_le 52 dX8_rule_44 rfl (fun c44 => ?_) (fun c44 => ?_)
          · refine aw_aload_n dX8_rule_52 rfl ?_
            refine aw_iload_n dX8_rule_53 rfl ?_
            refine aw_v1q dX8_rule_54 vl_RX8_174 (by first | rfl | assumption) (Nat.le_of_ble_eq_true rfl) (Nat.le_of_ble_eq_true rfl) (Nat.le_of_ble_eq_true rfl) (Nat.le_refl _) (Nat.le_refl _) (c_change (i := 1) hC hW (by omega) (by decide) (by decide) (Or.inl ⟨rfl, rfl⟩)) ?_
            intro v t' h' hq
            obtain ⟨rfl, rfl, f1, f2⟩ := hq
            refine aw_ireturn dX8_rule_57 rfl (Nat.le_refl _) (Nat.le_refl _) ?_
            first | (rw [if_neg (by omega), if_neg (by omega)]; exact ⟨rfl, rfl, hC, fun _ _ => rfl⟩) | (rw [if_neg (by omega), if_pos (by omega), c11]; exact ⟨rfl, rfl, f1, f2⟩)
          · refine aw_ldc (n := -1000001) dX8_rule_47 kc_RX8_80 (by decide) ?_
            refine aw_goto 57 dX8_rule_49 rfl ?_
            refine aw_ireturn dX8_rule_57 rfl (Nat.le_refl _) (Nat.le_refl _) ?_
            first | (rw [if_neg (by omega), if_neg (by omega)]; exact ⟨rfl, rfl, hC, fun _ _ => rfl⟩) | (rw [if_neg (by omega), if_pos (by omega), c11]; exact ⟨rfl, rfl, f1, f2⟩)
      · refine aw_tableIn 58 dX8_rule_11 g11a g11b (by rw [c11]; rfl) rfl ?_
        refine aw_iload_n dX8_rule_58 rfl ?_
        refine aw_iconst dX8_rule_59 (by decide) (by decide) ?_
        refine aw_icmp_lt 68 dX8_rule_60 rfl (fun c60 => ?_) (fun c60 => ?_)
        · refine aw_ldc (n := -1000001) dX8_rule_68 kc_RX8_80 (by decide) ?_
          refine aw_goto 78 dX8_rule_70 rfl ?_
          refine aw_ireturn dX8_rule_78 rfl (Nat.le_refl _) (Nat.le_refl _) ?_
          first | (rw [if_neg (by omega), if_neg (by omega)]; exact ⟨rfl, rfl, hC, fun _ _ => rfl⟩) | (rw [if_neg (by omega), if_pos (by omega), c11]; exact ⟨rfl, rfl, f1, f2⟩)
        · refine aw_iload_n dX8_rule_63 rfl ?_
          refine aw_iconst dX8_rule_64 (by decide) (by decide) ?_
          refine aw_icmp_le 73 dX8_rule_65 rfl (fun c65 => ?_) (fun c65 => ?_)
          · refine aw_aload_n dX8_rule_73 rfl ?_
            refine aw_iload_n dX8_rule_74 rfl ?_
            refine aw_v1q dX8_rule_75 vl_RX8_177 (by first | rfl | assumption) (Nat.le_of_ble_eq_true rfl) (Nat.le_of_ble_eq_true rfl) (Nat.le_of_ble_eq_true rfl) (Nat.le_refl _) (Nat.le_refl _) (c_change (i := 2) hC hW (by omega) (by decide) (by decide) (Or.inr (Or.inl ⟨rfl, rfl⟩))) ?_
            intro v t' h' hq
            obtain ⟨rfl, rfl, f1, f2⟩ := hq
            refine aw_ireturn dX8_rule_78 rfl (Nat.le_refl _) (Nat.le_refl _) ?_
            first | (rw [if_neg (by omega), if_neg (by omega)]; exact ⟨rfl, rfl, hC, fun _ _ => rfl⟩) | (rw [if_neg (by omega), if_pos (by omega), c11]; exact ⟨rfl, rfl, f1, f2⟩)
          · refine aw_ldc (n := -1000001) dX8_rule_68 kc_RX8_80 (by decide) ?_
            refine aw_goto 78 dX8_rule_70 rfl ?_
            refine aw_ireturn dX8_rule_78 rfl (Nat.le_refl _) (Nat.le_refl _) ?_
            first | (rw [if_neg (by omega), if_neg (by omega)]; exact ⟨rfl, rfl, hC, fun _ _ => rfl⟩) | (rw [if_neg (by omega), if_pos (by omega), c11]; exact ⟨rfl, rfl, f1, f2⟩)
      · refine aw_tableIn 79 dX8_rule_11 g11a g11b (by rw [c11]; rfl) rfl ?_
        refine aw_iload_n dX8_rule_79 rfl ?_
        refine aw_iconst dX8_rule_80 (by decide) (by decide) ?_
        refine aw_icmp_lt 90 dX8_rule_81 rfl (fun c81 => ?_) (fun c81 => ?_)
        · refine aw_ldc (n := -1000001) dX8_rule_90 kc_RX8_80 (by decide) ?_
          refine aw_goto 100 dX8_rule_92 rfl ?_
          refine aw_ireturn dX8_rule_100 rfl (Nat.le_refl _) (Nat.le_refl _) ?_
          first | (rw [if_neg (by omega), if_neg (by omega)]; exact ⟨rfl, rfl, hC, fun _ _ => rfl⟩) | (rw [if_neg (by omega), if_pos (by omega), c11]; exact ⟨rfl, rfl, f1, f2⟩)
        · refine aw_iload_n dX8_rule_84 rfl ?_
          refine aw_bipush dX8_rule_85 (by decide) (by decide) ?_
          refine aw_icmp_le 95 dX8_rule_87 rfl (fun c87 => ?_) (fun c87 => ?_)
          · refine aw_aload_n dX8_rule_95 rfl ?_
            refine aw_iload_n dX8_rule_96 rfl ?_
            refine aw_v1q dX8_rule_97 vl_RX8_180 (by first | rfl | assumption) (Nat.le_of_ble_eq_true rfl) (Nat.le_of_ble_eq_true rfl) (Nat.le_of_ble_eq_true rfl) (Nat.le_refl _) (Nat.le_refl _) (c_change (i := 3) hC hW (by omega) (by decide) (by decide) (Or.inr (Or.inr ⟨rfl, rfl⟩))) ?_
            intro v t' h' hq
            obtain ⟨rfl, rfl, f1, f2⟩ := hq
            refine aw_ireturn dX8_rule_100 rfl (Nat.le_refl _) (Nat.le_refl _) ?_
            first | (rw [if_neg (by omega), if_neg (by omega)]; exact ⟨rfl, rfl, hC, fun _ _ => rfl⟩) | (rw [if_neg (by omega), if_pos (by omega), c11]; exact ⟨rfl, rfl, f1, f2⟩)
          · refine aw_ldc (n := -1000001) dX8_rule_90 kc_RX8_80 (by decide) ?_
            refine aw_goto 100 dX8_rule_92 rfl ?_
            refine aw_ireturn dX8_rule_100 rfl (Nat.le_refl _) (Nat.le_refl _) ?_
            first | (rw [if_neg (by omega), if_neg (by omega)]; exact ⟨rfl, rfl, hC, fun _ _ => rfl⟩) | (rw [if_neg (by omega), if_pos (by omega), c11]; exact ⟨rfl, rfl, f1, f2⟩)
  · refine aw_ldc (n := -1000002) dX8_rule_7 kc_RX8_146 (by decide) ?_
    refine aw_ireturn dX8_rule_9 rfl (Nat.le_refl _) (Nat.le_refl _) ?_
    rw [if_pos (by omega)]
    exact ⟨rfl, rfl, hC, fun _ _ => rfl⟩
theorem c_X8_undo (hC : CS h σ) (hW : WFst σ) : Sem M_X8_undo [vR 0] (TT e q n L) h 0 0 (PC (sp_undo σ) h (TT e q n L)) := by
  have hp := hC.2.2.2.2.2.1
  have p1 := hp.1
  have hw := hW.2.2.2.2.1
  unfold sp_undo
  refine sem_intro (by decide) rfl (Nat.le_of_ble_eq_true rfl) rfl ?_
  refine aw_aload_n dX8_undo_0 rfl ?_
  refine aw_getR1 dX8_undo_1 fx_RX8_56 (by first | rfl | assumption) (by first | rfl | assumption) ?_
  refine aw_getI dX8_undo_4 fx_RX8_195 (by first | rfl | assumption) ?_
  refine aw_if_ne 13 dX8_undo_7 rfl (fun c7 => ?_) (fun c7 => ?_)
  · refine aw_aload_n dX8_undo_13 rfl ?_
    refine aw_getR1 dX8_undo_14 fx_RX8_56 (by first | rfl | assumption) (by first | rfl | assumption) ?_
    refine aw_aload_n dX8_undo_17 rfl ?_
    refine aw_getR1 dX8_undo_18 fx_RX8_30 (by first | rfl | assumption) (by first | rfl | assumption) ?_
    refine aw_v1q dX8_undo_21 vl_RX8_198 (by first | rfl | assumption) (Nat.le_of_ble_eq_true rfl) (Nat.le_of_ble_eq_true rfl) (Nat.le_of_ble_eq_true rfl) (Nat.le_refl _) (Nat.le_refl _) (c_X3_bringBack hp (by omega) ((wf_cnt (hw.2 _ (by omega)).1).2)) ?_
    intro v t' h1 hq
    obtain ⟨rfl, rfl, f1, f2, f3⟩ := hq
    have s1 : h1 238 2 = (((s_pas σ).1 - 1 : Nat) : Int) := f1.1
    refine aw_aload_n dX8_undo_24 rfl ?_
    refine aw_getR1 dX8_undo_25 fx_RX8_56 (by first | rfl | assumption) (by first | rfl | assumption) ?_
    refine aw_getI dX8_undo_28 fx_RX8_195 (by first | rfl | assumption) ?_
    refine aw_ireturn dX8_undo_31 rfl (Nat.le_refl _) (Nat.le_refl _) ?_
    rw [if_neg (by omega)]
    exact ⟨am_ri (by omega), rfl, hC.mkI (fun c hc => f3 c (by omega) (by omega)) f2 f1, fun c hc => f3 c (by omega) (by omega)⟩
  · refine aw_ldc (n := -1000002) dX8_undo_10 kc_RX8_146 (by decide) ?_
    refine aw_ireturn dX8_undo_12 rfl (Nat.le_refl _) (Nat.le_refl _) ?_
    rw [if_pos (by omega)]
    exact ⟨rfl, rfl, hC, fun _ _ => rfl⟩
end ACT2
