/-! print: what it means; the reference -/
def rsg (f j one five ten : Int) : Int := if f = 9 ∨ f = 4 then (if j = 0 then one else if f = 9 then ten else five) else if 4 < f ∧ j = 0 then five else one
def prS (kd page j : Int) : Int := if kd = 2 then (if j < rs (page / 10) then rsg (page / 10) j 120 108 99 else rsg (page % 10) (j - rs (page / 10)) 105 118 120) else if kd = 3 ∧ j = sgn kd page - 1 then 102 else 48 + (if 9 < page ∧ j = 0 then page / 10 else page % 10)
def sp_print (σ : ST) (i j : Int) : Int × ST := if ¬ (0 ≤ i ∧ i < s_liv σ 0 0) ∨ 3 < s_liv σ 1 i ∨ j < 0 then (-1000001, σ) else (if sgn (s_liv σ 1 i) (s_liv σ 3 (s_liv σ 2 i)) ≤ j then (if j < s_liv σ 4 i then 32 else -1000000) else prS (s_liv σ 1 i) (s_liv σ 3 (s_liv σ 2 i)) j, σ)
theorem s_print {σ : ST} {i j : Int} : (sp_print σ i j).2 = σ := sn_ite rfl rfl
section PRM
variable {e q n L : Nat} {h : Mem} {σ : ST}
theorem c_X9_romanSign {t : Tp} {f j a b c : Int} : SemE M_X9_romanSign [vI f, vI j, vI a, vI b, vI c] t h (some (vI (rsg f j a b c))) t h := by
  unfold rsg
  refine sem_intro (by decide) rfl (Nat.le_of_ble_eq_true rfl) rfl ?_
  refine aw_iload_n dX9_romanSign_0 rfl ?_
  refine aw_bipush dX9_romanSign_1 (by decide) (by decide) ?_
  refine aw_icmp_eq 11 dX9_romanSign_3 rfl (fun c3 => ?_) (fun c3 => ?_)
  · refine aw_iload_n dX9_romanSign_11 rfl ?_
    refine aw_if_ne 19 dX9_romanSign_12 rfl (fun c12 => ?_) (fun c12 => ?_)
    · refine aw_iload_n dX9_romanSign_19 rfl ?_
      refine aw_bipush dX9_romanSign_20 (by decide) (by decide) ?_
      refine aw_icmp_ne 30 dX9_romanSign_22 rfl (fun c22 => ?_) (fun c22 => ?_)
      · refine aw_iload_n dX9_romanSign_30 rfl ?_
        refine aw_ireturn dX9_romanSign_31 rfl (Nat.le_refl _) (Nat.le_refl _) ?_
        refine ⟨am_ri ?_, rfl, rfl⟩
        first | (rw [if_pos (show f = 9 ∨ f = 4 by omega)]; first | (rw [if_pos (by omega)]; done) | (rw [if_neg (by omega), if_pos (by omega)]; done) | (rw [if_neg (by omega), if_neg (by omega)]; done)) | (rw [if_neg (show ¬ (f = 9 ∨ f = 4) by omega)]; first | (rw [if_pos (by omega)]; done) | (rw [if_neg (by omega)]; done))
      · refine aw_iload dX9_romanSign_25 rfl ?_
        refine aw_goto 31 dX9_romanSign_27 rfl ?_
        refine aw_ireturn dX9_romanSign_31 rfl (Nat.le_refl _) (Nat.le_refl _) ?_
        refine ⟨am_ri ?_, rfl, rfl⟩
        first | (rw [if_pos (show f = 9 ∨ f = 4 by omega)]; first | (rw [if_pos (by omega)]; done) | (rw [if_neg (by omega), if_pos (by omega)]; done) | (rw [if_neg (by omega), if_neg (by omega)]; done)) | (rw [if_neg (show ¬ (f = 9 ∨ f = 4) by omega)]; first | (rw [if_pos (by omega)]; done) | (rw [if_neg (by omega)]; done))
    · refine aw_iload_n dX9_romanSign_15 rfl ?_
      refine aw_goto 31 dX9_romanSign_16 rfl ?_
      refine aw_ireturn dX9_romanSign_31 rfl (Nat.le_refl _) (Nat.le_refl _) ?_
      refine ⟨am_ri ?_, rfl, rfl⟩
      first | (rw [if_pos (show f = 9 ∨ f = 4 by omega)]; first | (rw [if_pos (by omega)]; done) | (rw [if_neg (by omega), if_pos (by omega)]; done) | (rw [if_neg (by omega), if_neg (by omega)]; done)) | (rw [if_neg (show ¬ (f = 9 ∨ f = 4) by omega)]; first | (rw [if_pos (by omega)]; done) | (rw [if_neg (by omega)]; done))
  · refine aw_iload_n dX9_romanSign_6 rfl ?_
    refine aw_iconst dX9_romanSign_7 (by decide) (by decide) ?_
    refine aw_icmp_ne 32 dX9_romanSign_8 rfl (fun c8 => ?_) (fun c8 => ?_)
    · refine aw_iload_n dX9_romanSign_32 rfl ?_
      refine aw_iconst dX9_romanSign_33 (by decide) (by decide) ?_
      refine aw_icmp_le 45 dX9_romanSign_34 rfl (fun c34 => ?_) (fun c34 => ?_)
      · refine aw_iload_n dX9_romanSign_45 rfl ?_
        refine aw_ireturn dX9_romanSign_46 rfl (Nat.le_refl _) (Nat.le_refl _) ?_
        refine ⟨am_ri ?_, rfl, rfl⟩
        first | (rw [if_pos (show f = 9 ∨ f = 4 by omega)]; first | (rw [if_pos (by omega)]; done) | (rw [if_neg (by omega), if_pos (by omega)]; done) | (rw [if_neg (by omega), if_neg (by omega)]; done)) | (rw [if_neg (show ¬ (f = 9 ∨ f = 4) by omega)]; first | (rw [if_pos (by omega)]; done) | (rw [if_neg (by omega)]; done))
      · refine aw_iload_n dX9_romanSign_37 rfl ?_
        refine aw_if_ne 45 dX9_romanSign_38 rfl (fun c38 => ?_) (fun c38 => ?_)
        · refine aw_iload_n dX9_romanSign_45 rfl ?_
          refine aw_ireturn dX9_romanSign_46 rfl (Nat.le_refl _) (Nat.le_refl _) ?_
          refine ⟨am_ri ?_, rfl, rfl⟩
          first | (rw [if_pos (show f = 9 ∨ f = 4 by omega)]; first | (rw [if_pos (by omega)]; done) | (rw [if_neg (by omega), if_pos (by omega)]; done) | (rw [if_neg (by omega), if_neg (by omega)]; done)) | (rw [if_neg (show ¬ (f = 9 ∨ f = 4) by omega)]; first | (rw [if_pos (by omega)]; done) | (rw [if_neg (by omega)]; done))
        · refine aw_iload_n dX9_romanSign_41 rfl ?_
          refine aw_goto 46 dX9_romanSign_42 rfl ?_
          refine aw_ireturn dX9_romanSign_46 rfl (Nat.le_refl _) (Nat.le_refl _) ?_
          refine ⟨am_ri ?_, rfl, rfl⟩
          first | (rw [if_pos (show f = 9 ∨ f = 4 by omega)]; first | (rw [if_pos (by omega)]; done) | (rw [if_neg (by omega), if_pos (by omega)]; done) | (rw [if_neg (by omega), if_neg (by omega)]; done)) | (rw [if_neg (show ¬ (f = 9 ∨ f = 4) by omega)]; first | (rw [if_pos (by omega)]; done) | (rw [if_neg (by omega)]; done))
    · refine aw_iload_n dX9_romanSign_11 rfl ?_
      refine aw_if_ne 19 dX9_romanSign_12 rfl (fun c12 => ?_) (fun c12 => ?_)
      · refine aw_iload_n dX9_romanSign_19 rfl ?_
        refine aw_bipush dX9_romanSign_20 (by decide) (by decide) ?_
        refine aw_icmp_ne 30 dX9_romanSign_22 rfl (fun c22 => ?_) (fun c22 => ?_)
        · refine aw_iload_n dX9_romanSign_30 rfl ?_
          refine aw_ireturn dX9_romanSign_31 rfl (Nat.le_refl _) (Nat.le_refl _) ?_
          refine ⟨am_ri ?_, rfl, rfl⟩
          first | (rw [if_pos (show f = 9 ∨ f = 4 by omega)]; first | (rw [if_pos (by omega)]; done) | (rw [if_neg (by omega), if_pos (by omega)]; done) | (rw [if_neg (by omega), if_neg (by omega)]; done)) | (rw [if_neg (show ¬ (f = 9 ∨ f = 4) by omega)]; first | (rw [if_pos (by omega)]; done) | (rw [if_neg (by omega)]; done))
        · refine aw_iload dX9_romanSign_25 rfl ?_
          refine aw_goto 31 dX9_romanSign_27 rfl ?_
          refine aw_ireturn dX9_romanSign_31 rfl (Nat.le_refl _) (Nat.le_refl _) ?_
          refine ⟨am_ri ?_, rfl, rfl⟩
          first | (rw [if_pos (show f = 9 ∨ f = 4 by omega)]; first | (rw [if_pos (by omega)]; done) | (rw [if_neg (by omega), if_pos (by omega)]; done) | (rw [if_neg (by omega), if_neg (by omega)]; done)) | (rw [if_neg (show ¬ (f = 9 ∨ f = 4) by omega)]; first | (rw [if_pos (by omega)]; done) | (rw [if_neg (by omega)]; done))
      · refine aw_iload_n dX9_romanSign_15 rfl ?_
        refine aw_goto 31 dX9_romanSign_16 rfl ?_
        refine aw_ireturn dX9_romanSign_31 rfl (Nat.le_refl _) (Nat.le_refl _) ?_
        refine ⟨am_ri ?_, rfl, rfl⟩
        first | (rw [if_pos (show f = 9 ∨ f = 4 by omega)]; first | (rw [if_pos (by omega)]; done) | (rw [if_neg (by omega), if_pos (by omega)]; done) | (rw [if_neg (by omega), if_neg (by omega)]; done)) | (rw [if_neg (show ¬ (f = 9 ∨ f = 4) by omega)]; first | (rw [if_pos (by omega)]; done) | (rw [if_neg (by omega)]; done))
set_option maxHeartbeats 2000000 in
theorem c_X9_print {i j : Int} (hM : MS h σ) (hW : WFst σ) : Sem M_X9_print [vR 373, vI i, vI j] (TT e q n L) h 0 0 (PM (sp_print σ i j) h (TT e q n L)) := by
  unfold sp_print
  have ev : mV h 379 0 = s_liv σ := hM.2.2.2.2.1
  have ec : h 379 3 = s_liv σ 0 0 := mA_c ev
  have ws := wf_sh hW.2.2.2.1
  have k1 : 0 ≤ i ∧ i ≤ h 379 3 - 1 → WFv (s_liv σ) ∧ h 379 (5 + 4 * i) = s_liv σ 1 i ∧ h 379 (5 + 4 * i + 1) = s_liv σ 2 i ∧ h 379 (5 + 4 * i + 3) = s_liv σ 4 i ∧ 1 ≤ s_liv σ 1 i ∧ (s_liv σ 1 i ≤ 3 → 0 ≤ s_liv σ 2 i ∧ s_liv σ 2 i < s_liv σ 0 0 ∧ h 379 (5 + 4 * s_liv σ 2 i + 2) = s_liv σ 3 (s_liv σ 2 i) ∧ 1 ≤ s_liv σ 3 (s_liv σ 2 i) ∧ s_liv σ 3 (s_liv σ 2 i) ≤ 98) := fun z => by
    have hL := wf_liv hW.2.2.2.1 (by omega)
    have wi := hL.1.2.2.2.2.2.2.2.2 i (by omega) (by omega)
    refine ⟨hL.1, mA1 ev (by omega) (by omega), mA2 ev (by omega) (by omega), mA4 ev (by omega) (by omega), wi.1, fun y => ?_⟩
    obtain ⟨a, b⟩ := wi.2.2.1 y
    have wj := hL.1.2.2.2.2.2.2.2.2 _ a b
    exact ⟨a, b, mA3 ev a b, wj.2.2.2.2.1, wj.2.2.2.2.2.1⟩
  have fin : ∀ x y : Int, x = y → PM (y, σ) h (TT e q n L) (some (vI x)) (TT e q n L) h := fun x y z => ⟨am_ri z, rfl, hM, fun _ _ => rfl⟩
  refine sem_intro (by decide) rfl (Nat.le_of_ble_eq_true rfl) rfl ?_
  refine aw_aload_n dX9_print_0 rfl ?_
  refine aw_iload_n dX9_print_1 rfl ?_
  refine aw_v1i dX9_print_2 vl_RX9_202 (by first | rfl | assumption) (Nat.le_of_ble_eq_true rfl) (Nat.le_of_ble_eq_true rfl) (Nat.le_of_ble_eq_true rfl) (Nat.le_refl _) (Nat.le_refl _) (c_X9_isItem (by omega) (by omega)) ?_
  refine aw_ifB_eq 26 dX9_print_5 rfl (fun c5 => ?_) (fun c5 => ?_)
  · refine aw_ldc (n := -1000001) dX9_print_26 kc_RX9_70 (by decide) ?_
    refine aw_ireturn dX9_print_28 rfl (Nat.le_refl _) (Nat.le_refl _) ?_
    rw [if_pos (by omega)]
    exact ⟨rfl, rfl, hM, fun _ _ => rfl⟩
  · refine aw_aload_n dX9_print_8 rfl ?_
    refine aw_getR1 dX9_print_9 fx_RX9_25 (by first | rfl | assumption) (by first | rfl | assumption) ?_
    refine aw_iconst dX9_print_12 (by decide) (by decide) ?_
    refine aw_iconst dX9_print_13 (by decide) (by decide) ?_
    refine aw_iload_n dX9_print_14 rfl ?_
    refine aw_imul dX9_print_15 (by omega) (by omega) ?_
    refine aw_iadd dX9_print_16 (by omega) (by omega) ?_
    refine aw_iaload dX9_print_17 (by first | rfl | assumption) (by omega) (by omega) ?_
    obtain ⟨hV, kk1, kk2, kk4, kk0, kk3⟩ := k1 c5
    rw [kk1]
    refine aw_iconst dX9_print_18 (by decide) (by decide) ?_
    refine aw_icmp_gt 26 dX9_print_19 rfl (fun c19 => ?_) (fun c19 => ?_)
    · refine aw_ldc (n := -1000001) dX9_print_26 kc_RX9_70 (by decide) ?_
      refine aw_ireturn dX9_print_28 rfl (Nat.le_refl _) (Nat.le_refl _) ?_
      rw [if_pos (by omega)]
      exact ⟨rfl, rfl, hM, fun _ _ => rfl⟩
    · refine aw_iload_n dX9_print_22 rfl ?_
      refine aw_if_ge 29 dX9_print_23 rfl (fun c23 => ?_) (fun c23 => ?_)
      · obtain ⟨o1, o2, o3, o4, o5⟩ := kk3 (by omega)
        rw [if_neg (by omega)]
        have sb := sgn_bd (k := s_liv σ 1 i) (p := s_liv σ 3 (s_liv σ 2 i)) (by omega) (by omega)
        have rb := rs_bd (f := s_liv σ 3 (s_liv σ 2 i) / 10) (by omega) (by omega)
        refine aw_aload_n dX9_print_29 rfl ?_
        refine aw_getR1 dX9_print_30 fx_RX9_25 (by first | rfl | assumption) (by first | rfl | assumption) ?_
        refine aw_iconst dX9_print_33 (by decide) (by decide) ?_
        refine aw_iconst dX9_print_34 (by decide) (by decide) ?_
        refine aw_iload_n dX9_print_35 rfl ?_
        refine aw_imul dX9_print_36 (by omega) (by omega) ?_
        refine aw_iadd dX9_print_37 (by omega) (by omega) ?_
        refine aw_iaload dX9_print_38 (by first | rfl | assumption) (by omega) (by omega) ?_
        rw [kk1]
        refine aw_istore_n (ls' := [_, _, _, _, _, _, _]) dX9_print_39 (by decide) rfl ?_
        refine aw_aload_n dX9_print_40 rfl ?_
        refine aw_getR1 dX9_print_41 fx_RX9_25 (by first | rfl | assumption) (by first | rfl | assumption) ?_
        refine aw_iconst dX9_print_44 (by decide) (by decide) ?_
        refine aw_iconst dX9_print_45 (by decide) (by decide) ?_
        refine aw_aload_n dX9_print_46 rfl ?_
        refine aw_getR1 dX9_print_47 fx_RX9_25 (by first | rfl | assumption) (by first | rfl | assumption) ?_
        refine aw_iconst dX9_print_50 (by decide) (by decide) ?_
        refine aw_iconst dX9_print_51 (by decide) (by decide) ?_
        refine aw_iload_n dX9_print_52 rfl ?_
        refine aw_imul dX9_print_53 (by omega) (by omega) ?_
        refine aw_iadd dX9_print_54 (by omega) (by omega) ?_
        refine aw_iconst dX9_print_55 (by decide) (by decide) ?_
        refine aw_iadd dX9_print_56 (by omega) (by omega) ?_
        refine aw_iaload dX9_print_57 (by first | rfl | assumption) (by omega) (by omega) ?_
        rw [kk2]
        refine aw_imul dX9_print_58 (by omega) (by omega) ?_
        refine aw_iadd dX9_print_59 (by omega) (by omega) ?_
        refine aw_iconst dX9_print_60 (by decide) (by decide) ?_
        refine aw_iadd dX9_print_61 (by omega) (by omega) ?_
        refine aw_iaload dX9_print_62 (by first | rfl | assumption) (by omega) (by omega) ?_
        rw [o3]
        refine aw_istore (ls' := [_, _, _, _, _, _, _]) dX9_print_63 (by decide) rfl ?_
        refine aw_iload_n dX9_print_65 rfl ?_
        refine aw_iload dX9_print_66 rfl ?_
        refine aw_s2i dX9_print_68 sl_RX9_155 (Nat.le_of_ble_eq_true rfl) (Nat.le_of_ble_eq_true rfl) (Nat.le_of_ble_eq_true rfl) (Nat.le_refl _) (Nat.le_refl _) (c_X9_signs (by omega) (by omega)) ?_
        refine aw_istore (ls' := [_, _, _, _, _, _, _]) dX9_print_71 (by decide) rfl ?_
        refine aw_iload_n dX9_print_73 rfl ?_
        refine aw_iload dX9_print_74 rfl ?_
        refine aw_icmp_lt 103 dX9_print_76 rfl (fun c76 => ?_) (fun c76 => ?_)
        · rw [if_neg (show ¬ sgn (s_liv σ 1 i) (s_liv σ 3 (s_liv σ 2 i)) ≤ j by omega)]
          unfold prS
          refine aw_iload_n dX9_print_103 rfl ?_
          refine aw_iconst dX9_print_104 (by decide) (by decide) ?_
          refine aw_icmp_ne 161 dX9_print_105 rfl (fun c105 => ?_) (fun c105 => ?_)
          · refine aw_iload_n dX9_print_161 rfl ?_
            refine aw_iconst dX9_print_162 (by decide) (by decide) ?_
            refine aw_icmp_ne 177 dX9_print_163 rfl (fun c163 => ?_) (fun c163 => ?_)
            · refine aw_bipush dX9_print_177 (by decide) (by decide) ?_
              refine aw_iload dX9_print_179 rfl ?_
              refine aw_bipush dX9_print_181 (by decide) (by decide) ?_
              refine aw_icmp_le 198 dX9_print_183 rfl (fun c183 => ?_) (fun c183 => ?_)
              · refine aw_iload dX9_print_198 rfl ?_
                refine aw_bipush dX9_print_200 (by decide) (by decide) ?_
                refine aw_irem dX9_print_202 (by omega) (by omega) ?_
                refine aw_iadd dX9_print_203 (by omega) (by omega) ?_
                refine aw_ireturn dX9_print_204 rfl (Nat.le_refl _) (Nat.le_refl _) ?_
                rw [if_neg (show ¬ s_liv σ 1 i = 2 by omega), if_neg (by omega)]
                first | (rw [if_pos (by omega)]; exact fin _ _ rfl) | (rw [if_neg (by omega)]; exact fin _ _ rfl)
              · refine aw_iload_n dX9_print_186 rfl ?_
                refine aw_if_ne 198 dX9_print_187 rfl (fun c187 => ?_) (fun c187 => ?_)
                · refine aw_iload dX9_print_198 rfl ?_
                  refine aw_bipush dX9_print_200 (by decide) (by decide) ?_
                  refine aw_irem dX9_print_202 (by omega) (by omega) ?_
                  refine aw_iadd dX9_print_203 (by omega) (by omega) ?_
                  refine aw_ireturn dX9_print_204 rfl (Nat.le_refl _) (Nat.le_refl _) ?_
                  rw [if_neg (show ¬ s_liv σ 1 i = 2 by omega), if_neg (by omega)]
                  first | (rw [if_pos (by omega)]; exact fin _ _ rfl) | (rw [if_neg (by omega)]; exact fin _ _ rfl)
                · refine aw_iload dX9_print_190 rfl ?_
                  refine aw_bipush dX9_print_192 (by decide) (by decide) ?_
                  refine aw_idiv dX9_print_194 (by omega) (by omega) ?_
                  refine aw_goto 203 dX9_print_195 rfl ?_
                  refine aw_iadd dX9_print_203 (by omega) (by omega) ?_
                  refine aw_ireturn dX9_print_204 rfl (Nat.le_refl _) (Nat.le_refl _) ?_
                  rw [if_neg (show ¬ s_liv σ 1 i = 2 by omega), if_neg (by omega)]
                  first | (rw [if_pos (by omega)]; exact fin _ _ rfl) | (rw [if_neg (by omega)]; exact fin _ _ rfl)
            · refine aw_iload_n dX9_print_166 rfl ?_
              refine aw_iload dX9_print_167 rfl ?_
              refine aw_iconst dX9_print_169 (by decide) (by decide) ?_
              refine aw_isub dX9_print_170 (by omega) (by omega) ?_
              refine aw_icmp_ne 177 dX9_print_171 rfl (fun c171 => ?_) (fun c171 => ?_)
              · refine aw_bipush dX9_print_177 (by decide) (by decide) ?_
                refine aw_iload dX9_print_179 rfl ?_
                refine aw_bipush dX9_print_181 (by decide) (by decide) ?_
                refine aw_icmp_le 198 dX9_print_183 rfl (fun c183 => ?_) (fun c183 => ?_)
                · refine aw_iload dX9_print_198 rfl ?_
                  refine aw_bipush dX9_print_200 (by decide) (by decide) ?_
                  refine aw_irem dX9_print_202 (by omega) (by omega) ?_
                  refine aw_iadd dX9_print_203 (by omega) (by omega) ?_
                  refine aw_ireturn dX9_print_204 rfl (Nat.le_refl _) (Nat.le_refl _) ?_
                  rw [if_neg (show ¬ s_liv σ 1 i = 2 by omega), if_neg (by omega)]
                  first | (rw [if_pos (by omega)]; exact fin _ _ rfl) | (rw [if_neg (by omega)]; exact fin _ _ rfl)
                · refine aw_iload_n dX9_print_186 rfl ?_
                  refine aw_if_ne 198 dX9_print_187 rfl (fun c187 => ?_) (fun c187 => ?_)
                  · refine aw_iload dX9_print_198 rfl ?_
                    refine aw_bipush dX9_print_200 (by decide) (by decide) ?_
                    refine aw_irem dX9_print_202 (by omega) (by omega) ?_
                    refine aw_iadd dX9_print_203 (by omega) (by omega) ?_
                    refine aw_ireturn dX9_print_204 rfl (Nat.le_refl _) (Nat.le_refl _) ?_
                    rw [if_neg (show ¬ s_liv σ 1 i = 2 by omega), if_neg (by omega)]
                    first | (rw [if_pos (by omega)]; exact fin _ _ rfl) | (rw [if_neg (by omega)]; exact fin _ _ rfl)
                  · refine aw_iload dX9_print_190 rfl ?_
                    refine aw_bipush dX9_print_192 (by decide) (by decide) ?_
                    refine aw_idiv dX9_print_194 (by omega) (by omega) ?_
                    refine aw_goto 203 dX9_print_195 rfl ?_
                    refine aw_iadd dX9_print_203 (by omega) (by omega) ?_
                    refine aw_ireturn dX9_print_204 rfl (Nat.le_refl _) (Nat.le_refl _) ?_
                    rw [if_neg (show ¬ s_liv σ 1 i = 2 by omega), if_neg (by omega)]
                    first | (rw [if_pos (by omega)]; exact fin _ _ rfl) | (rw [if_neg (by omega)]; exact fin _ _ rfl)
              · refine aw_bipush dX9_print_174 (by decide) (by decide) ?_
                refine aw_ireturn dX9_print_176 rfl (Nat.le_refl _) (Nat.le_refl _) ?_
                rw [if_neg (show ¬ s_liv σ 1 i = 2 by omega), if_pos (by omega)]
                exact fin _ _ rfl
          · refine aw_iload dX9_print_108 rfl ?_
            refine aw_bipush dX9_print_110 (by decide) (by decide) ?_
            refine aw_idiv dX9_print_112 (by omega) (by omega) ?_
            refine aw_s1i dX9_print_113 sl_RX9_152 (Nat.le_of_ble_eq_true rfl) (Nat.le_of_ble_eq_true rfl) (Nat.le_of_ble_eq_true rfl) (Nat.le_refl _) (Nat.le_refl _) (c_X9_romanSigns (by omega) (by omega)) ?_
            refine aw_istore (ls' := [_, _, _, _, _, _, _]) dX9_print_116 (by decide) rfl ?_
            refine aw_iload_n dX9_print_118 rfl ?_
            refine aw_iload dX9_print_119 rfl ?_
            refine aw_icmp_ge 142 dX9_print_121 rfl (fun c121 => ?_) (fun c121 => ?_)
            · refine aw_iload dX9_print_142 rfl ?_
              refine aw_bipush dX9_print_144 (by decide) (by decide) ?_
              refine aw_irem dX9_print_146 (by omega) (by omega) ?_
              refine aw_iload_n dX9_print_147 rfl ?_
              refine aw_iload dX9_print_148 rfl ?_
              refine aw_isub dX9_print_150 (by omega) (by omega) ?_
              refine aw_bipush dX9_print_151 (by decide) (by decide) ?_
              refine aw_bipush dX9_print_153 (by decide) (by decide) ?_
              refine aw_bipush dX9_print_155 (by decide) (by decide) ?_
              refine aw_s5i dX9_print_157 sl_RX9_218 (Nat.le_of_ble_eq_true rfl) (Nat.le_of_ble_eq_true rfl) (Nat.le_of_ble_eq_true rfl) (Nat.le_refl _) (Nat.le_refl _) (c_X9_romanSign) ?_
              refine aw_ireturn dX9_print_160 rfl (Nat.le_refl _) (Nat.le_refl _) ?_
              rw [if_pos (show s_liv σ 1 i = 2 by omega)]
              first | (rw [if_pos (by omega)]; exact fin _ _ rfl) | (rw [if_neg (by omega)]; exact fin _ _ rfl)
            · refine aw_iload dX9_print_124 rfl ?_
              refine aw_bipush dX9_print_126 (by decide) (by decide) ?_
              refine aw_idiv dX9_print_128 (by omega) (by omega) ?_
              refine aw_iload_n dX9_print_129 rfl ?_
              refine aw_bipush dX9_print_130 (by decide) (by decide) ?_
              refine aw_bipush dX9_print_132 (by decide) (by decide) ?_
              refine aw_bipush dX9_print_134 (by decide) (by decide) ?_
              refine aw_s5i dX9_print_136 sl_RX9_218 (Nat.le_of_ble_eq_true rfl) (Nat.le_of_ble_eq_true rfl) (Nat.le_of_ble_eq_true rfl) (Nat.le_refl _) (Nat.le_refl _) (c_X9_romanSign) ?_
              refine aw_goto 160 dX9_print_139 rfl ?_
              refine aw_ireturn dX9_print_160 rfl (Nat.le_refl _) (Nat.le_refl _) ?_
              rw [if_pos (show s_liv σ 1 i = 2 by omega)]
              first | (rw [if_pos (by omega)]; exact fin _ _ rfl) | (rw [if_neg (by omega)]; exact fin _ _ rfl)
        · refine aw_iload_n dX9_print_79 rfl ?_
          refine aw_aload_n dX9_print_80 rfl ?_
          refine aw_getR1 dX9_print_81 fx_RX9_25 (by first | rfl | assumption) (by first | rfl | assumption) ?_
          refine aw_iconst dX9_print_84 (by decide) (by decide) ?_
          refine aw_iconst dX9_print_85 (by decide) (by decide) ?_
          refine aw_iload_n dX9_print_86 rfl ?_
          refine aw_imul dX9_print_87 (by omega) (by omega) ?_
          refine aw_iadd dX9_print_88 (by omega) (by omega) ?_
          refine aw_iconst dX9_print_89 (by decide) (by decide) ?_
          refine aw_iadd dX9_print_90 (by omega) (by omega) ?_
          refine aw_iaload dX9_print_91 (by first | rfl | assumption) (by omega) (by omega) ?_
          rw [kk4]
          refine aw_icmp_ge 100 dX9_print_92 rfl (fun c92 => ?_) (fun c92 => ?_)
          · refine aw_ldc (n := -1000000) dX9_print_100 kc_RX9_56 (by decide) ?_
            refine aw_ireturn dX9_print_102 rfl (Nat.le_refl _) (Nat.le_refl _) ?_
            rw [if_pos (show sgn (s_liv σ 1 i) (s_liv σ 3 (s_liv σ 2 i)) ≤ j by omega)]
            first | (rw [if_pos (by omega)]; exact fin _ _ rfl) | (rw [if_neg (by omega)]; exact fin _ _ rfl)
          · refine aw_bipush dX9_print_95 (by decide) (by decide) ?_
            refine aw_goto 102 dX9_print_97 rfl ?_
            refine aw_ireturn dX9_print_102 rfl (Nat.le_refl _) (Nat.le_refl _) ?_
            rw [if_pos (show sgn (s_liv σ 1 i) (s_liv σ 3 (s_liv σ 2 i)) ≤ j by omega)]
            first | (rw [if_pos (by omega)]; exact fin _ _ rfl) | (rw [if_neg (by omega)]; exact fin _ _ rfl)
      · refine aw_ldc (n := -1000001) dX9_print_26 kc_RX9_70 (by decide) ?_
        refine aw_ireturn dX9_print_28 rfl (Nat.le_refl _) (Nat.le_refl _) ?_
        rw [if_pos (by omega)]
        exact ⟨rfl, rfl, hM, fun _ _ => rfl⟩
end PRM
