section CHB
variable {e q n L : Nat} {h : Mem} {V : VW}
theorem c_X1_weightOfRest {c : Int} {N : Nat} (hv : cV h 16 = V) (hV : WFv V) (hro : RO h) (hN : V 0 0 = (N : Int)) (c0 : 0 ≤ c) (c1 : c ≤ 10) : Sem M_X1_weightOfRest [vR 232, vI c] (TT e q n L) h 0 0 (fun v t' h' => v = some (vL (Gs c N V)) ∧ t' = TT e q n L ∧ SC h h') := by
  refine sem_intro (by decide) rfl (Nat.le_of_ble_eq_true rfl) rfl ?_
  refine aw_aload_n dX1_weightOfRest_0 rfl ?_
  refine aw_v0q dX1_weightOfRest_1 vl_RX1_122 (by first | rfl | assumption) (Nat.le_of_ble_eq_true rfl) (Nat.le_of_ble_eq_true rfl) (Nat.le_of_ble_eq_true rfl) (Nat.le_refl _) (Nat.le_refl _) (c_X1_gatherGrowing (by rw [hv]; exact hV)) ?_
  intro v t' h1 hq
  obtain ⟨rfl, rfl, f1, f2⟩ := hq
  rw [hv, hN, Int.toNat_natCast] at f2
  rw [hv, hN, Int.toNat_natCast]
  refine aw_istore_n (ls' := [_, _, _, _, _, _, _, _]) dX1_weightOfRest_4 (by decide) rfl ?_
  refine aw_lconst (z := 0) dX1_weightOfRest_5 (by decide) ?_
  refine aw_lstore_n (ls' := [_, _, _, _, _, _, _, _]) dX1_weightOfRest_6 (by decide) rfl ?_
  refine aw_iconst dX1_weightOfRest_7 (by decide) (by decide) ?_
  refine aw_istore (ls' := [_, _, _, _, _, _, _, _]) dX1_weightOfRest_8 (by decide) rfl ?_
  refine l_rest (h := h1) (N := N) (V := V) (by rw [cV_congr (fun k _ _ => by rw [f1 16 (by decide)]) (fun j k _ _ _ _ => by rw [f1 (16 + j) (by omega)])]; exact hv) hV (fun j j0 j1 => by rw [f1 _ (by decide)]; exact hro j j0 j1) hN c0 c1 f2 (fun hh f => ⟨by rw [T_eq], rfl, fun c hc => by rw [f c hc]; exact f1 c (by omega)⟩) (2 ^ gn V N) 0 h1 (by omega) SC.rf rfl
theorem l_all {Q : Option AV → Tp → Mem → Prop} {w : Nat} (hw : w ≤ 12) (hk : Q (some (vL (10 ^ w))) (TT e q n L) h) : ∀ (m i : Nat), i + m = w → AW M_X1_weightOfAll 0 0 Q 10 [some (vR 232), some (vI w), some (vL (10 ^ i)), none, some (vI i)] [] (TT e q n L) h 0 0 := by
  intro m
  induction m with
  | zero =>
    intro i hi
    have ek : i = w := by omega
    subst ek
    refine aw_iload dX1_weightOfAll_10 rfl ?_
    refine aw_iload_n dX1_weightOfAll_12 rfl ?_
    refine aw_icmp_ge 28 dX1_weightOfAll_13 rfl (fun c13 => ?_) (fun c13 => ?_)
    · refine aw_lload_n dX1_weightOfAll_28 rfl ?_
      refine aw_lreturn dX1_weightOfAll_29 rfl (Nat.le_refl _) (Nat.le_refl _) ?_
      exact hk
    · exfalso; omega
  | succ m ih =>
    intro i hi
    have pb : ∀ w : Nat, w < 13 → (0 : Int) ≤ 10 ^ w ∧ (10 : Int) ^ w ≤ 1000000000000 := by decide
    have b := pb i (by omega)
    have z := ih (i + 1) (by omega)
    rw [Int.pow_succ] at z
    refine aw_iload dX1_weightOfAll_10 rfl ?_
    refine aw_iload_n dX1_weightOfAll_12 rfl ?_
    refine aw_icmp_ge 28 dX1_weightOfAll_13 rfl (fun c13 => ?_) (fun c13 => ?_)
    · exfalso; omega
    · refine aw_lload_n dX1_weightOfAll_16 rfl ?_
      refine aw_ldc2 (n := 10) dX1_weightOfAll_17 kl_RX1_132 (by decide) ?_
      refine aw_lmul dX1_weightOfAll_20 (by omega) (by omega) ?_
      refine aw_lstore_n (ls' := [_, _, _, _, _]) dX1_weightOfAll_21 (by decide) rfl ?_
      refine aw_iinc (ls' := [_, _, _, _, _]) dX1_weightOfAll_22 (by decide) rfl (by omega) (by omega) rfl ?_
      refine aw_goto 10 dX1_weightOfAll_25 rfl ?_
      exact z
theorem c_X1_weightOfAll {N : Nat} (hv : cV h 16 = V) (hV : WFv V) (hN : V 0 0 = (N : Int)) : Sem M_X1_weightOfAll [vR 232] (TT e q n L) h 0 0 (fun v t' h' => v = some (vL (gB V N)) ∧ t' = TT e q n L ∧ SC h h') := by
  have v2 := hV.2.1
  have gl := gn_le (V := V) N
  refine sem_intro (by decide) rfl (Nat.le_of_ble_eq_true rfl) rfl ?_
  refine aw_aload_n dX1_weightOfAll_0 rfl ?_
  refine aw_v0q dX1_weightOfAll_1 vl_RX1_122 (by first | rfl | assumption) (Nat.le_of_ble_eq_true rfl) (Nat.le_of_ble_eq_true rfl) (Nat.le_of_ble_eq_true rfl) (Nat.le_refl _) (Nat.le_refl _) (c_X1_gatherGrowing (by rw [hv]; exact hV)) ?_
  intro v t' h1 hq
  obtain ⟨rfl, rfl, f1, f2⟩ := hq
  rw [hv, hN, Int.toNat_natCast]
  refine aw_istore_n (ls' := [_, _, _, _, _]) dX1_weightOfAll_4 (by decide) rfl ?_
  refine aw_lconst (z := 1) dX1_weightOfAll_5 (by decide) ?_
  refine aw_lstore_n (ls' := [_, _, _, _, _]) dX1_weightOfAll_6 (by decide) rfl ?_
  refine aw_iconst dX1_weightOfAll_7 (by decide) (by decide) ?_
  refine aw_istore (ls' := [_, _, _, _, _]) dX1_weightOfAll_8 (by decide) rfl ?_
  exact l_all (h := h1) (w := gn V N) (by omega) ⟨by rw [gB_pow], rfl, fun c hc => f1 c (by omega)⟩ (gn V N) 0 (by omega)
theorem gcd_st {a b : Int} (h0 : 0 ≤ a) (h1 : 0 < b) : Int.gcd a b = Int.gcd b (a % b) := by
  obtain ⟨m, rfl⟩ := Int.eq_ofNat_of_zero_le h0
  obtain ⟨k, rfl⟩ := Int.eq_ofNat_of_zero_le (Int.le_of_lt h1)
  have e : (m : Int) % (k : Int) = ((m % k : Nat) : Int) := by norm_cast
  rw [e]
  show Nat.gcd m k = Nat.gcd k (m % k)
  rw [Nat.gcd_comm m k, Nat.gcd_rec k m, Nat.gcd_comm]
theorem l_gcd {Q : Option AV → Tp → Mem → Prop} {t : Tp} {G : Nat} (hk : Q (some (vL (G : Int))) t h) : ∀ (m st : Nat) (a b : Int), st + 2 * m ≤ 126 → 0 ≤ a → 0 ≤ b → b < 2 ^ m → Int.gcd a b = G → AW M_X8_greatestCommon 0 0 Q 3 [some (vL a), none, some (vL b), none, some (vI st), none, none] [] t h 0 0 := by
  have st0 : ∀ (st : Nat) (a : Int), 0 ≤ a → Int.gcd a 0 = G → st ≤ 126 → AW M_X8_greatestCommon 0 0 Q 3 [some (vL a), none, some (vL 0), none, some (vI st), none, none] [] t h 0 0 := by
    intro st a h0 hG hs
    rw [Int.gcd_zero_right] at hG
    have ea : a = (G : Int) := by omega
    subst ea
    refine aw_iload dX8_greatestCommon_3 rfl ?_
    refine aw_sipush dX8_greatestCommon_5 (by decide) (by decide) ?_
    refine aw_icmp_ge 33 dX8_greatestCommon_8 rfl (fun c8 => ?_) (fun c8 => ?_)
    · exfalso; omega
    · refine aw_lload_n dX8_greatestCommon_11 rfl ?_
      refine aw_lconst (z := 0) dX8_greatestCommon_12 (by decide) ?_
      refine aw_lcmp dX8_greatestCommon_13 ?_
      refine aw_if_eq 33 dX8_greatestCommon_14 rfl (fun c14 => ?_) (fun c14 => ?_)
      · refine aw_lload_n dX8_greatestCommon_33 rfl ?_
        refine aw_lreturn dX8_greatestCommon_34 rfl (Nat.le_refl _) (Nat.le_refl _) ?_
        exact hk
      · exfalso; omega
  have st1 : ∀ (st : Nat) (a b : Int), 0 ≤ a → 0 < b → st ≤ 126 → AW M_X8_greatestCommon 0 0 Q 3 [some (vL b), none, some (vL (a % b)), none, some (vI ((st + 1 : Nat) : Int)), none, none] [] t h 0 0 → AW M_X8_greatestCommon 0 0 Q 3 [some (vL a), none, some (vL b), none, some (vI st), none, none] [] t h 0 0 := by
    intro st a b h0 h1 hs k
    refine aw_iload dX8_greatestCommon_3 rfl ?_
    refine aw_sipush dX8_greatestCommon_5 (by decide) (by decide) ?_
    refine aw_icmp_ge 33 dX8_greatestCommon_8 rfl (fun c8 => ?_) (fun c8 => ?_)
    · exfalso; omega
    · refine aw_lload_n dX8_greatestCommon_11 rfl ?_
      refine aw_lconst (z := 0) dX8_greatestCommon_12 (by decide) ?_
      refine aw_lcmp dX8_greatestCommon_13 ?_
      refine aw_if_eq 33 dX8_greatestCommon_14 rfl (fun c14 => ?_) (fun c14 => ?_)
      · exfalso; rw [if_neg (by omega), if_neg (by omega)] at c14; omega
      · refine aw_lload_n dX8_greatestCommon_17 rfl ?_
        refine aw_lload_n dX8_greatestCommon_18 rfl ?_
        refine aw_lrem dX8_greatestCommon_19 (by omega) (by omega) ?_
        refine aw_lstore (ls' := [_, _, _, _, _, _, _]) dX8_greatestCommon_20 (by decide) rfl ?_
        refine aw_lload_n dX8_greatestCommon_22 rfl ?_
        refine aw_lstore_n (ls' := [_, _, _, _, _, _, _]) dX8_greatestCommon_23 (by decide) rfl ?_
        refine aw_lload dX8_greatestCommon_24 rfl ?_
        refine aw_lstore_n (ls' := [_, _, _, _, _, _, _]) dX8_greatestCommon_26 (by decide) rfl ?_
        refine aw_iinc (ls' := [_, _, _, _, _, _, _]) dX8_greatestCommon_27 (by decide) rfl (by omega) (by omega) rfl ?_
        refine aw_goto 3 dX8_greatestCommon_30 rfl ?_
        exact aw_less (by repeat' (first | exact trivial | exact rfl | apply And.intro)) k
  intro m
  induction m with
  | zero =>
    intro st a b hs h0 h1 hb hG
    have e : b = 0 := by
      rw [Int.pow_zero] at hb
      omega
    subst e
    exact st0 st a h0 hG (by omega)
  | succ m ih =>
    intro st a b hs h0 h1 hb hG
    by_cases y : b = 0
    · subst y; exact st0 st a h0 hG (by omega)
    · refine st1 st a b h0 (by omega) (by omega) ?_
      have r0 : 0 ≤ a % b := Int.emod_nonneg _ (by omega)
      have r1 : a % b < b := Int.emod_lt_of_pos _ (by omega)
      rw [gcd_st h0 (by omega)] at hG
      by_cases y2 : a % b = 0
      · rw [y2] at hG ⊢
        exact st0 (st + 1) b (by omega) hG (by omega)
      · refine st1 (st + 1) b (a % b) (by omega) (by omega) (by omega) ?_
        rw [gcd_st (by omega) (by omega)] at hG
        generalize a % b = r at *
        have s0 : 0 ≤ b % r := Int.emod_nonneg _ (by omega)
        have s1 : b % r < r := Int.emod_lt_of_pos _ (by omega)
        have s2 : b % r + r ≤ b := by
          have := Int.emod_add_mul_ediv b r
          have d1 : 1 ≤ b / r := (Int.le_ediv_iff_mul_le (by omega)).2 (by omega)
          have := Int.mul_le_mul_of_nonneg_left d1 (show 0 ≤ r by omega)
          rw [Int.mul_one] at this
          omega
        rw [Int.pow_succ] at hb
        exact ih (st + 2) r (b % r) (by omega) (by omega) s0 (by omega) hG
theorem c_X8_greatestCommon {t : Tp} {a b : Int} (h0 : 0 ≤ a) (h1 : 0 ≤ b) (h2 : b ≤ 1000000000000) : SemE M_X8_greatestCommon [vL a, vL b] t h (some (vL (Int.gcd a b : Int))) t h := by
  refine sem_intro (by decide) rfl (Nat.le_of_ble_eq_true rfl) rfl ?_
  refine aw_iconst dX8_greatestCommon_0 (by decide) (by decide) ?_
  refine aw_istore (ls' := [_, _, _, _, _, _, _]) dX8_greatestCommon_1 (by decide) rfl ?_
  exact aw_less (by repeat' (first | exact trivial | exact rfl | apply And.intro)) (l_gcd ⟨rfl, rfl, rfl⟩ 40 0 a b (by omega) h0 h1 (by omega) rfl)
theorem c_X8_chance {σ : ST} {c w : Int} (hC : CS h σ) (hW : WFst σ) (hro : RO h) : Sem M_X8_chance [vR 0, vI c, vI w] (TT e q n L) h 0 0 (PCl (sp_chance σ c w) h (TT e q n L)) := by
  have eV : cV h 16 = s_liv σ := hC.2.2.2.2.1
  have e0 : h 16 0 = s_liv σ 0 0 := by rw [← eV, cVc]
  have hcn := wf_cnt hW.2.2.2.1
  unfold sp_chance
  refine sem_intro (by decide) rfl (Nat.le_of_ble_eq_true rfl) rfl ?_
  refine aw_aload_n dX8_chance_0 rfl ?_
  refine aw_v0i dX8_chance_1 vl_RX8_142 (by first | rfl | assumption) (Nat.le_of_ble_eq_true rfl) (Nat.le_of_ble_eq_true rfl) (Nat.le_of_ble_eq_true rfl) (Nat.le_refl _) (Nat.le_refl _) (c_X8_isWithoutSheet) ?_
  refine aw_ifB_eq 11 dX8_chance_4 rfl (fun c4 => ?_) (fun c4 => ?_)
  · refine aw_iload_n dX8_chance_11 rfl ?_
    refine aw_if_lt 30 dX8_chance_12 rfl (fun c12 => ?_) (fun c12 => ?_)
    · refine aw_ldc2 (n := -1000001) dX8_chance_30 kl_RX8_281 (by decide) ?_
      refine aw_lreturn dX8_chance_33 rfl (Nat.le_refl _) (Nat.le_refl _) ?_
      rw [if_neg (by omega), if_pos (by omega)]
      exact ⟨rfl, rfl, hC, fun _ _ => rfl⟩
    · refine aw_iload_n dX8_chance_15 rfl ?_
      refine aw_bipush dX8_chance_16 (by decide) (by decide) ?_
      refine aw_icmp_gt 30 dX8_chance_18 rfl (fun c18 => ?_) (fun c18 => ?_)
      · refine aw_ldc2 (n := -1000001) dX8_chance_30 kl_RX8_281 (by decide) ?_
        refine aw_lreturn dX8_chance_33 rfl (Nat.le_refl _) (Nat.le_refl _) ?_
        rw [if_neg (by omega), if_pos (by omega)]
        exact ⟨rfl, rfl, hC, fun _ _ => rfl⟩
      · refine aw_iload_n dX8_chance_21 rfl ?_
        refine aw_if_lt 30 dX8_chance_22 rfl (fun c22 => ?_) (fun c22 => ?_)
        · refine aw_ldc2 (n := -1000001) dX8_chance_30 kl_RX8_281 (by decide) ?_
          refine aw_lreturn dX8_chance_33 rfl (Nat.le_refl _) (Nat.le_refl _) ?_
          rw [if_neg (by omega), if_pos (by omega)]
          exact ⟨rfl, rfl, hC, fun _ _ => rfl⟩
        · refine aw_iload_n dX8_chance_25 rfl ?_
          refine aw_iconst dX8_chance_26 (by decide) (by decide) ?_
          refine aw_icmp_le 34 dX8_chance_27 rfl (fun c27 => ?_) (fun c27 => ?_)
          · have hL := wf_liv hW.2.2.2.1 (by omega)
            rw [if_neg (by omega), if_neg (by omega)]
            obtain ⟨N, hN⟩ : ∃ N : Nat, s_liv σ 0 0 = (N : Int) := ⟨(s_liv σ 0 0).toNat, by omega⟩
            rw [hN, Int.toNat_natCast]
            have gb := gB_12 (V := s_liv σ) (k := N) (by omega)
            have ga := Gs_0 (c := c) (by omega) (by omega) N (s_liv σ)
            have gg : 0 < Int.gcd (Gs c N (s_liv σ)) (gB (s_liv σ) N) := Int.gcd_pos_of_ne_zero_right _ (by omega)
            refine aw_aload_n dX8_chance_34 rfl ?_
            refine aw_getR1 dX8_chance_35 fx_RX8_49 (by first | rfl | assumption) (by first | rfl | assumption) ?_
            refine aw_iload_n dX8_chance_38 rfl ?_
            refine aw_v1q dX8_chance_39 vl_RX8_283 (by first | rfl | assumption) (Nat.le_of_ble_eq_true rfl) (Nat.le_of_ble_eq_true rfl) (Nat.le_of_ble_eq_true rfl) (Nat.le_refl _) (Nat.le_refl _) (c_X1_weightOfRest (N := N) eV hL.1 hro hN (by omega) (by omega)) ?_
            intro v t' h1 hq
            obtain ⟨rfl, rfl, f1⟩ := hq
            refine aw_lstore_n (ls' := [_, _, _, _, _, _, _, _, _, _, _]) dX8_chance_42 (by decide) rfl ?_
            refine aw_aload_n dX8_chance_43 rfl ?_
            refine aw_getR1 dX8_chance_44 fx_RX8_49 (by first | rfl | assumption) (by first | rfl | assumption) ?_
            refine aw_v0q dX8_chance_47 vl_RX8_287 (by first | rfl | assumption) (Nat.le_of_ble_eq_true rfl) (Nat.le_of_ble_eq_true rfl) (Nat.le_of_ble_eq_true rfl) (Nat.le_refl _) (Nat.le_refl _) (c_X1_weightOfAll (N := N) (by rw [f1.cV (by decide), eV]) hL.1 hN) ?_
            intro v t' h2 hq
            obtain ⟨rfl, rfl, f2⟩ := hq
            have f3 := f1.tr f2
            refine aw_lstore (ls' := [_, _, _, _, _, _, _, _, _, _, _]) dX8_chance_50 (by decide) rfl ?_
            refine aw_lload_n dX8_chance_52 rfl ?_
            refine aw_lload dX8_chance_53 rfl ?_
            refine aw_s2l dX8_chance_55 sl_RX8_291 (Nat.le_of_ble_eq_true rfl) (Nat.le_of_ble_eq_true rfl) (Nat.le_of_ble_eq_true rfl) (Nat.le_refl _) (Nat.le_refl _) (c_X8_greatestCommon ga (by omega) gb.2) ?_
            refine aw_lstore (ls' := [_, _, _, _, _, _, _, _, _, _, _]) dX8_chance_58 (by decide) rfl ?_
            refine aw_iload_n dX8_chance_60 rfl ?_
            refine aw_if_ne 68 dX8_chance_61 rfl (fun c61 => ?_) (fun c61 => ?_)
            · refine aw_lload dX8_chance_68 rfl ?_
              refine aw_lstore (ls' := [_, _, _, _, _, _, _, _, _, _, _]) dX8_chance_70 (by decide) rfl ?_
              refine aw_lload dX8_chance_72 rfl ?_
              refine aw_lconst (z := 0) dX8_chance_74 (by decide) ?_
              refine aw_lcmp dX8_chance_75 ?_
              refine aw_if_le 87 dX8_chance_76 rfl (fun c76 => ?_) (fun c76 => ?_)
              · exfalso; rw [if_pos (by omega)] at c76; omega
              · refine aw_lload dX8_chance_79 rfl ?_
                refine aw_lload dX8_chance_81 rfl ?_
                refine aw_ldiv dX8_chance_83 (by omega) (by omega) ?_
                refine aw_goto 89 dX8_chance_84 rfl ?_
                refine aw_lreturn dX8_chance_89 rfl (Nat.le_refl _) (Nat.le_refl _) ?_
                refine ⟨am_rl ?_, rfl, f3.cs hC, fun c hc => f3 c (by omega)⟩
                first | (rw [if_pos (by omega)]; done) | (rw [if_neg (by omega)]; done)
            · refine aw_lload_n dX8_chance_64 rfl ?_
              refine aw_goto 70 dX8_chance_65 rfl ?_
              refine aw_lstore (ls' := [_, _, _, _, _, _, _, _, _, _, _]) dX8_chance_70 (by decide) rfl ?_
              refine aw_lload dX8_chance_72 rfl ?_
              refine aw_lconst (z := 0) dX8_chance_74 (by decide) ?_
              refine aw_lcmp dX8_chance_75 ?_
              refine aw_if_le 87 dX8_chance_76 rfl (fun c76 => ?_) (fun c76 => ?_)
              · exfalso; rw [if_pos (by omega)] at c76; omega
              · refine aw_lload dX8_chance_79 rfl ?_
                refine aw_lload dX8_chance_81 rfl ?_
                refine aw_ldiv dX8_chance_83 (by omega) (by omega) ?_
                refine aw_goto 89 dX8_chance_84 rfl ?_
                refine aw_lreturn dX8_chance_89 rfl (Nat.le_refl _) (Nat.le_refl _) ?_
                refine ⟨am_rl ?_, rfl, f3.cs hC, fun c hc => f3 c (by omega)⟩
                first | (rw [if_pos (by omega)]; done) | (rw [if_neg (by omega)]; done)
          · refine aw_ldc2 (n := -1000001) dX8_chance_30 kl_RX8_281 (by decide) ?_
            refine aw_lreturn dX8_chance_33 rfl (Nat.le_refl _) (Nat.le_refl _) ?_
            rw [if_neg (by omega), if_pos (by omega)]
            exact ⟨rfl, rfl, hC, fun _ _ => rfl⟩
  · refine aw_ldc2 (n := -1000002) dX8_chance_7 kl_RX8_279 (by decide) ?_
    refine aw_lreturn dX8_chance_10 rfl (Nat.le_refl _) (Nat.le_refl _) ?_
    rw [if_pos (by omega)]
    exact ⟨rfl, rfl, hC, fun _ _ => rfl⟩
end CHB
