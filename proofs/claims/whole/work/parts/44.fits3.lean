def fitv (V : VW) (it : Int) (g : Int → Int) (N : Nat) (w : Int) : Int := if w = 0 then bset (kndP V it g N) 6 else if w = 1 then bset (numP V it g N) 21 else if w = 2 then cntF (fstP V it g N) 87 else lstF (fstP V it g N) 87 1
def sp_fits (σ : ST) (it r i k w : Int) : Int × ST := if ¬ (0 ≤ it ∧ it < s_liv σ 0 0) ∨ ¬ (0 ≤ r ∧ r < 8) ∨ k < 1 ∨ 12 < k ∨ w < 0 ∨ 3 < w then (-1000001, σ) else if s_lan σ r = -1 then (-1000011, wFnd σ 1) else if ¬ (0 ≤ i ∧ 0 ≤ k ∧ i ≤ s_siz σ r ∧ k ≤ s_siz σ r - i) then (-1000012, wFnd σ 2) else (fitv (s_liv σ) it (fun j => s_val σ r (i + j)) k.toNat w, wFnd σ 0)
theorem TT_e {e q n L b : Nat} : ((TT e q n L).1, (TT e q n L).2.1, am_upR (TT e q n L).2.2 232 6 (some b)) = TT b q n L := by
  show (n, sh_a n L, am_upR (rf_a e q) 232 6 (some b)) = (n, sh_a n L, rf_a b q)
  congr 2
  funext a k
  unfold am_upR
  by_cases ha : a = 232
  · subst ha
    by_cases hk : k = 6
    · subst hk
      rw [if_pos ⟨rfl, rfl⟩]; rfl
    · rw [if_neg (by omega)]
      simp [rf_a, hk]
  · rw [if_neg (by omega)]
    unfold rf_a
    simp only [ha, if_false]
section FI3
variable {e q n L : Nat} {h : Mem} {σ : ST}
theorem c_X1_expect {it fr k : Int} {b : Nat} : Sem M_X1_expect [vR 232, vI it, vR b, vI fr, vI k] (TT e q n L) h 0 0 (fun v t' h' => v = none ∧ t' = TT b q n L ∧ h' 232 5 = it ∧ h' 232 7 = fr ∧ h' 232 8 = k ∧ ∀ c, c ≠ 232 → h' c = h c) := by
  refine sem_intro (by decide) rfl (Nat.le_of_ble_eq_true rfl) rfl ?_
  refine aw_aload_n dX1_expect_0 rfl ?_
  refine aw_iload_n dX1_expect_1 rfl ?_
  refine aw_putI dX1_expect_2 fp_RX1_102 (by first | rfl | assumption) ?_
  refine aw_aload_n dX1_expect_5 rfl ?_
  refine aw_aload_n dX1_expect_6 rfl ?_
  refine aw_putR dX1_expect_7 fp_RX1_33 (fun z => by first | rfl | cases z) (fun _ => ⟨rfl, rfl⟩) (by first | rfl | assumption) ?_
  rw [TT_e]
  refine aw_aload_n dX1_expect_10 rfl ?_
  refine aw_iload_n dX1_expect_11 rfl ?_
  refine aw_putI dX1_expect_12 fp_RX1_105 (by first | rfl | assumption) ?_
  refine aw_aload_n dX1_expect_15 rfl ?_
  refine aw_iload dX1_expect_16 rfl ?_
  refine aw_putI dX1_expect_18 fp_RX1_108 (by first | rfl | assumption) ?_
  refine aw_return dX1_expect_21 rfl (Nat.le_refl _) (Nat.le_refl _) ?_
  exact ⟨rfl, rfl, by simp [am_up], by simp [am_up], by simp [am_up], fun c hc => by rw [am_up_ne hc, am_up_ne hc, am_up_ne hc]⟩
def PCe (sp : Int × ST) (h : Mem) (q n L : Nat) : Option AV → Tp → Mem → Prop := fun v t' h' => v = some (vI sp.1) ∧ (∃ e', t' = TT e' q n L) ∧ CS h' sp.2 ∧ ∀ c, 373 ≤ c → h' c = h c
set_option maxHeartbeats 2000000 in
theorem c_X8_fits {it r i k w : Int} (hC : CS h σ) (hW : WFst σ) (hro : RO h) : Sem M_X8_fits [vR 0, vI it, vI r, vI i, vI k, vI w] (TT e q n L) h 0 0 (PCe (sp_fits σ it r i k w) h q n L) := by
  have eV : cV h 16 = s_liv σ := hC.2.2.2.2.1
  have e0 : h 16 0 = s_liv σ 0 0 := by rw [← eV, cVc]
  have hcn := wf_cnt hW.2.2.2.1
  have hr : 0 ≤ r ∧ r < 8 → h 2 r = s_lan σ r ∧ h 3 r = s_siz σ r ∧ 0 ≤ s_siz σ r ∧ s_siz σ r ≤ 40 := fun z => ⟨(hC.1 r z.1 z.2).1, (hC.1 r z.1 z.2).2.1, (hW.1 r z.1 z.2).2.2⟩
  unfold sp_fits
  refine sem_intro (by decide) rfl (Nat.le_of_ble_eq_true rfl) rfl ?_
  refine aw_aload_n dX8_fits_0 rfl ?_
  refine aw_getR1 dX8_fits_1 fx_RX8_30 (by first | rfl | assumption) (by first | rfl | assumption) ?_
  refine aw_iload_n dX8_fits_4 rfl ?_
  refine aw_v1i dX8_fits_5 vl_RX8_162 (by first | rfl | assumption) (Nat.le_of_ble_eq_true rfl) (Nat.le_of_ble_eq_true rfl) (Nat.le_of_ble_eq_true rfl) (Nat.le_refl _) (Nat.le_refl _) (c_X7_holds (by first | assumption | exact sh_16 | exact sh_21)) ?_
  refine aw_ifB_eq 42 dX8_fits_8 rfl (fun c8 => ?_) (fun c8 => ?_)
  · refine aw_ldc (n := -1000001) dX8_fits_42 kc_RX8_80 (by decide) ?_
    refine aw_ireturn dX8_fits_44 rfl (Nat.le_refl _) (Nat.le_refl _) ?_
    rw [if_pos (by omega)]
    exact ⟨rfl, ⟨_, rfl⟩, hC, fun _ _ => rfl⟩
  · refine aw_iload_n dX8_fits_11 rfl ?_
    refine aw_s1i dX8_fits_12 sl_RX8_73 (Nat.le_of_ble_eq_true rfl) (Nat.le_of_ble_eq_true rfl) (Nat.le_of_ble_eq_true rfl) (Nat.le_refl _) (Nat.le_refl _) (c_X5_isNumber) ?_
    refine aw_ifB_eq 42 dX8_fits_15 rfl (fun c15 => ?_) (fun c15 => ?_)
    · refine aw_ldc (n := -1000001) dX8_fits_42 kc_RX8_80 (by decide) ?_
      refine aw_ireturn dX8_fits_44 rfl (Nat.le_refl _) (Nat.le_refl _) ?_
      rw [if_pos (by omega)]
      exact ⟨rfl, ⟨_, rfl⟩, hC, fun _ _ => rfl⟩
    · refine aw_iload dX8_fits_18 rfl ?_
      refine aw_iconst dX8_fits_20 (by decide) (by decide) ?_
      refine aw_icmp_lt 42 dX8_fits_21 rfl (fun c21 => ?_) (fun c21 => ?_)
      · refine aw_ldc (n := -1000001) dX8_fits_42 kc_RX8_80 (by decide) ?_
        refine aw_ireturn dX8_fits_44 rfl (Nat.le_refl _) (Nat.le_refl _) ?_
        rw [if_pos (by omega)]
        exact ⟨rfl, ⟨_, rfl⟩, hC, fun _ _ => rfl⟩
      · refine aw_iload dX8_fits_24 rfl ?_
        refine aw_bipush dX8_fits_26 (by decide) (by decide) ?_
        refine aw_icmp_gt 42 dX8_fits_28 rfl (fun c28 => ?_) (fun c28 => ?_)
        · refine aw_ldc (n := -1000001) dX8_fits_42 kc_RX8_80 (by decide) ?_
          refine aw_ireturn dX8_fits_44 rfl (Nat.le_refl _) (Nat.le_refl _) ?_
          rw [if_pos (by omega)]
          exact ⟨rfl, ⟨_, rfl⟩, hC, fun _ _ => rfl⟩
        · refine aw_iload dX8_fits_31 rfl ?_
          refine aw_if_lt 42 dX8_fits_33 rfl (fun c33 => ?_) (fun c33 => ?_)
          · refine aw_ldc (n := -1000001) dX8_fits_42 kc_RX8_80 (by decide) ?_
            refine aw_ireturn dX8_fits_44 rfl (Nat.le_refl _) (Nat.le_refl _) ?_
            rw [if_pos (by omega)]
            exact ⟨rfl, ⟨_, rfl⟩, hC, fun _ _ => rfl⟩
          · refine aw_iload dX8_fits_36 rfl ?_
            refine aw_iconst dX8_fits_38 (by decide) (by decide) ?_
            refine aw_icmp_le 45 dX8_fits_39 rfl (fun c39 => ?_) (fun c39 => ?_)
            · have hr2 := hr c15
              rw [if_neg (by omega)]
              refine aw_aload_n dX8_fits_45 rfl ?_
              refine aw_getR1 dX8_fits_46 fx_RX8_10 (by first | rfl | assumption) (by first | rfl | assumption) ?_
              refine aw_iload_n dX8_fits_49 rfl ?_
              refine aw_v1i dX8_fits_50 vl_RX8_92 (by first | rfl | assumption) (Nat.le_of_ble_eq_true rfl) (Nat.le_of_ble_eq_true rfl) (Nat.le_of_ble_eq_true rfl) (Nat.le_refl _) (Nat.le_refl _) (c_X5_isMissing (by omega) (by omega)) ?_
              refine aw_ifB_eq 62 dX8_fits_53 rfl (fun c53 => ?_) (fun c53 => ?_)
              · refine aw_aload_n dX8_fits_62 rfl ?_
                refine aw_getR1 dX8_fits_63 fx_RX8_10 (by first | rfl | assumption) (by first | rfl | assumption) ?_
                refine aw_iload_n dX8_fits_66 rfl ?_
                refine aw_iload_n dX8_fits_67 rfl ?_
                refine aw_iload dX8_fits_68 rfl ?_
                refine aw_v3i dX8_fits_70 vl_RX8_95 (by first | rfl | assumption) (Nat.le_of_ble_eq_true rfl) (Nat.le_of_ble_eq_true rfl) (Nat.le_of_ble_eq_true rfl) (Nat.le_refl _) (Nat.le_refl _) (c_X5_hasPlaces c15.1 c15.2 (by omega) (by omega)) ?_
                refine aw_ifB_ne 82 dX8_fits_73 rfl (fun c73 => ?_) (fun c73 => ?_)
                · rw [if_neg (by omega), if_neg (by omega)]
                  have hL := wf_liv hW.2.2.2.1 (by omega)
                  obtain ⟨N, hN⟩ : ∃ N : Nat, k = (N : Int) := ⟨k.toNat, by omega⟩
                  subst hN
                  obtain ⟨b, hb⟩ : ∃ b, b = 5 + r.toNat := ⟨_, rfl⟩
                  have g1 : (TT e q n L).2.2 4 r = some b := by rw [hb]; exact rf_row c15.1 c15.2
                  unfold fitv
                  refine aw_aload_n dX8_fits_82 rfl ?_
                  refine aw_getR1 dX8_fits_83 fx_RX8_49 (by first | rfl | assumption) (by first | rfl | assumption) ?_
                  refine aw_iload_n dX8_fits_86 rfl ?_
                  refine aw_aload_n dX8_fits_87 rfl ?_
                  refine aw_getR1 dX8_fits_88 fx_RX8_10 (by first | rfl | assumption) (by first | rfl | assumption) ?_
                  refine aw_getR1 dX8_fits_91 fx_RX8_261 (by first | rfl | assumption) (by first | rfl | assumption) ?_
                  refine aw_iload_n dX8_fits_94 rfl ?_
                  refine aw_aaload1 dX8_fits_95 (by first | rfl | assumption) (by decide) (by omega) (by omega) g1 ?_
                  refine aw_iload_n dX8_fits_96 rfl ?_
                  refine aw_iload dX8_fits_97 rfl ?_
                  refine aw_v4q dX8_fits_99 vl_RX8_265 (by first | rfl | assumption) (Nat.le_of_ble_eq_true rfl) (Nat.le_of_ble_eq_true rfl) (Nat.le_of_ble_eq_true rfl) (Nat.le_refl _) (Nat.le_refl _) (c_X1_expect) ?_
                  intro v t' h1 hq
                  obtain ⟨rfl, rfl, f1, f2, f3, f4⟩ := hq
                  have g3 : (TT b q n L).2.1 b = (20, 40) := by rw [hb]; exact sh_row (by omega)
                  have hE : EXP h1 (TT b q n L) b (s_liv σ) it i N (fun j => s_val σ r (i + j)) := ⟨by rw [← eV]; exact cV_congr (fun k _ _ => by rw [f4 _ (by decide)]) (fun j k _ _ _ _ => by rw [f4 _ (by omega)]), hL.1, fun j j0 j1 => by rw [f4 _ (by decide)]; exact hro j j0 j1, g3, by omega, f1, f2, f3, c8.1, by omega, by omega, by omega, fun j hj => by rw [f4 b (by omega), hb]; exact (hC.1 r c15.1 c15.2).2.2 _ (by omega) (by omega)⟩
                  have fin : ∀ h2 : Mem, SC2 h1 h2 → CS (am_up h2 0 12 0) (wFnd σ 0) ∧ ∀ c, 373 ≤ c → am_up h2 0 12 0 c = h c := fun h2 s2 => ⟨CS.upF (hC.fr (fun c hc => by unfold KC at hc; rw [s2 c (by omega), f4 c (by omega)])), fun c hc => by rw [am_up_ne (by omega), s2 c (by omega), f4 c (by omega)]⟩
                  refine aw_iload dX8_fits_102 rfl ?_
                  refine aw_table 169 dX8_fits_104 rfl (fun c104 => ?_) (fun g104a g104b => ?_)
                  · refine aw_aload_n dX8_fits_169 rfl ?_
                    refine aw_aload_n dX8_fits_170 rfl ?_
                    refine aw_getR1 dX8_fits_171 fx_RX8_49 (by first | rfl | assumption) (by first | rfl | assumption) ?_
                    refine aw_iconst dX8_fits_174 (by decide) (by decide) ?_
                    refine aw_v1q dX8_fits_175 vl_RX8_275 (by first | rfl | assumption) (Nat.le_of_ble_eq_true rfl) (Nat.le_of_ble_eq_true rfl) (Nat.le_of_ble_eq_true rfl) (Nat.le_refl _) (Nat.le_refl _) (c_X1_firsts hE) ?_
                    intro v t' h2 hq
                    obtain ⟨rfl, rfl, s2⟩ := hq
                    refine aw_v1i dX8_fits_178 vl_RX8_89 (by first | rfl | assumption) (Nat.le_of_ble_eq_true rfl) (Nat.le_of_ble_eq_true rfl) (Nat.le_of_ble_eq_true rfl) (Nat.le_refl _) (Nat.le_refl _) (c_X8_sound) ?_
                    refine aw_ireturn dX8_fits_181 rfl (Nat.le_refl _) (Nat.le_refl _) ?_
                    exact ⟨am_ri (by show _ = (if _ then _ else _); rw [if_neg (show ¬ w = 0 by omega), if_neg (show ¬ w = 1 by omega), if_neg (show ¬ w = 2 by omega), if_pos rfl]; rfl), ⟨_, rfl⟩, fin h2 s2⟩
                  · rcases tcs_0_2 g104a g104b with c104 | c104 | c104
                    · refine aw_tableIn 132 dX8_fits_104 g104a g104b (by rw [c104]; rfl) rfl ?_
                      refine aw_aload_n dX8_fits_132 rfl ?_
                      refine aw_aload_n dX8_fits_133 rfl ?_
                      refine aw_getR1 dX8_fits_134 fx_RX8_49 (by first | rfl | assumption) (by first | rfl | assumption) ?_
                      refine aw_v0q dX8_fits_137 vl_RX8_269 (by first | rfl | assumption) (Nat.le_of_ble_eq_true rfl) (Nat.le_of_ble_eq_true rfl) (Nat.le_of_ble_eq_true rfl) (Nat.le_refl _) (Nat.le_refl _) (c_X1_kinds hE) ?_
                      intro v t' h2 hq
                      obtain ⟨rfl, rfl, s2⟩ := hq
                      refine aw_v1i dX8_fits_140 vl_RX8_89 (by first | rfl | assumption) (Nat.le_of_ble_eq_true rfl) (Nat.le_of_ble_eq_true rfl) (Nat.le_of_ble_eq_true rfl) (Nat.le_refl _) (Nat.le_refl _) (c_X8_sound) ?_
                      refine aw_ireturn dX8_fits_143 rfl (Nat.le_refl _) (Nat.le_refl _) ?_
                      exact ⟨am_ri (by show _ = (if _ then _ else _); rw [if_pos c104]; rfl), ⟨_, rfl⟩, fin h2 s2⟩
                    · refine aw_tableIn 144 dX8_fits_104 g104a g104b (by rw [c104]; rfl) rfl ?_
                      refine aw_aload_n dX8_fits_144 rfl ?_
                      refine aw_aload_n dX8_fits_145 rfl ?_
                      refine aw_getR1 dX8_fits_146 fx_RX8_49 (by first | rfl | assumption) (by first | rfl | assumption) ?_
                      refine aw_v0q dX8_fits_149 vl_RX8_272 (by first | rfl | assumption) (Nat.le_of_ble_eq_true rfl) (Nat.le_of_ble_eq_true rfl) (Nat.le_of_ble_eq_true rfl) (Nat.le_refl _) (Nat.le_refl _) (c_X1_numbers hE) ?_
                      intro v t' h2 hq
                      obtain ⟨rfl, rfl, s2⟩ := hq
                      refine aw_v1i dX8_fits_152 vl_RX8_89 (by first | rfl | assumption) (Nat.le_of_ble_eq_true rfl) (Nat.le_of_ble_eq_true rfl) (Nat.le_of_ble_eq_true rfl) (Nat.le_refl _) (Nat.le_refl _) (c_X8_sound) ?_
                      refine aw_ireturn dX8_fits_155 rfl (Nat.le_refl _) (Nat.le_refl _) ?_
                      exact ⟨am_ri (by show _ = (if _ then _ else _); rw [if_neg (by omega), if_pos c104]; rfl), ⟨_, rfl⟩, fin h2 s2⟩
                    · refine aw_tableIn 156 dX8_fits_104 g104a g104b (by rw [c104]; rfl) rfl ?_
                      refine aw_aload_n dX8_fits_156 rfl ?_
                      refine aw_aload_n dX8_fits_157 rfl ?_
                      refine aw_getR1 dX8_fits_158 fx_RX8_49 (by first | rfl | assumption) (by first | rfl | assumption) ?_
                      refine aw_iconst dX8_fits_161 (by decide) (by decide) ?_
                      refine aw_v1q dX8_fits_162 vl_RX8_275 (by first | rfl | assumption) (Nat.le_of_ble_eq_true rfl) (Nat.le_of_ble_eq_true rfl) (Nat.le_of_ble_eq_true rfl) (Nat.le_refl _) (Nat.le_refl _) (c_X1_firsts hE) ?_
                      intro v t' h2 hq
                      obtain ⟨rfl, rfl, s2⟩ := hq
                      refine aw_v1i dX8_fits_165 vl_RX8_89 (by first | rfl | assumption) (Nat.le_of_ble_eq_true rfl) (Nat.le_of_ble_eq_true rfl) (Nat.le_of_ble_eq_true rfl) (Nat.le_refl _) (Nat.le_refl _) (c_X8_sound) ?_
                      refine aw_ireturn dX8_fits_168 rfl (Nat.le_refl _) (Nat.le_refl _) ?_
                      exact ⟨am_ri (by show _ = (if _ then _ else _); rw [if_neg (show ¬ w = 0 by omega), if_neg (show ¬ w = 1 by omega), if_pos c104, if_neg (by decide)]; rfl), ⟨_, rfl⟩, fin h2 s2⟩
                · refine aw_aload_n dX8_fits_76 rfl ?_
                  refine aw_iconst dX8_fits_77 (by decide) (by decide) ?_
                  refine aw_v1i dX8_fits_78 vl_RX8_81 (by first | rfl | assumption) (Nat.le_of_ble_eq_true rfl) (Nat.le_of_ble_eq_true rfl) (Nat.le_of_ble_eq_true rfl) (Nat.le_refl _) (Nat.le_refl _) (c_X8_found (by decide) (by decide)) ?_
                  refine aw_ireturn dX8_fits_81 rfl (Nat.le_refl _) (Nat.le_refl _) ?_
                  rw [if_neg (by omega), if_pos (by omega)]
                  exact ⟨rfl, ⟨_, rfl⟩, hC.upF, fun c hc => am_up_ne (by omega)⟩
              · refine aw_aload_n dX8_fits_56 rfl ?_
                refine aw_iconst dX8_fits_57 (by decide) (by decide) ?_
                refine aw_v1i dX8_fits_58 vl_RX8_81 (by first | rfl | assumption) (Nat.le_of_ble_eq_true rfl) (Nat.le_of_ble_eq_true rfl) (Nat.le_of_ble_eq_true rfl) (Nat.le_refl _) (Nat.le_refl _) (c_X8_found (by decide) (by decide)) ?_
                refine aw_ireturn dX8_fits_61 rfl (Nat.le_refl _) (Nat.le_refl _) ?_
                rw [if_pos (by omega)]
                exact ⟨rfl, ⟨_, rfl⟩, hC.upF, fun c hc => am_up_ne (by omega)⟩
            · refine aw_ldc (n := -1000001) dX8_fits_42 kc_RX8_80 (by decide) ?_
              refine aw_ireturn dX8_fits_44 rfl (Nat.le_refl _) (Nat.le_refl _) ?_
              rw [if_pos (by omega)]
              exact ⟨rfl, ⟨_, rfl⟩, hC, fun _ _ => rfl⟩
end FI3
