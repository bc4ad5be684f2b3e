/-! the reference: what is asked -/
section MOL
variable {e q n L : Nat} {h : Mem} {σ : ST} {V : VW} {a : Nat}
theorem l_frozen {t : Tp} {Q : Option AV → Tp → Mem → Prop} (sa : t.2.1 a = (20, 53)) (ev : mV h a 0 = V) (v0 : 0 ≤ V 0 0) (v2 : V 0 0 ≤ 12) (hk : Q (some (vI (fzs V))) t h) :
    ∀ (m k : Nat), (k : Int) + m = V 0 0 → AW M_X9_frozenOnes 0 0 Q 4 [some (vR a), some (vI (bset (fun i => decide (0 < V 4 i)) k)), some (vI k)] [] t h 0 0 := by
  have ea := mA_c ev
  intro m
  induction m with
  | zero =>
    intro k hi
    have e1 : (V 0 0).toNat = k := by omega
    unfold fzs at hk
    rw [e1] at hk
    refine aw_iload_n dX9_frozenOnes_4 rfl ?_
    refine aw_aload_n dX9_frozenOnes_5 rfl ?_
    refine aw_iconst dX9_frozenOnes_6 (by decide) (by decide) ?_
    refine aw_iaload dX9_frozenOnes_7 (by first | rfl | assumption) (by omega) (by omega) ?_
    rw [ea]
    refine aw_icmp_ge 39 dX9_frozenOnes_8 rfl (fun c8 => ?_) (fun c8 => ?_)
    · refine aw_iload_n dX9_frozenOnes_39 rfl ?_
      refine aw_ireturn dX9_frozenOnes_40 rfl (Nat.le_refl _) (Nat.le_refl _) ?_
      exact hk
    · exfalso; omega
  | succ m ih =>
    intro k hi
    have z := ih (k + 1) (by omega)
    have e4 := mA4 (k := (k : Int)) ev (by omega) (by omega)
    refine aw_iload_n dX9_frozenOnes_4 rfl ?_
    refine aw_aload_n dX9_frozenOnes_5 rfl ?_
    refine aw_iconst dX9_frozenOnes_6 (by decide) (by decide) ?_
    refine aw_iaload dX9_frozenOnes_7 (by first | rfl | assumption) (by omega) (by omega) ?_
    rw [ea]
    refine aw_icmp_ge 39 dX9_frozenOnes_8 rfl (fun c8 => ?_) (fun c8 => ?_)
    · exfalso; omega
    · refine aw_iload_n dX9_frozenOnes_11 rfl ?_
      refine aw_aload_n dX9_frozenOnes_12 rfl ?_
      refine aw_iconst dX9_frozenOnes_13 (by decide) (by decide) ?_
      refine aw_iconst dX9_frozenOnes_14 (by decide) (by decide) ?_
      refine aw_iload_n dX9_frozenOnes_15 rfl ?_
      refine aw_imul dX9_frozenOnes_16 (by omega) (by omega) ?_
      refine aw_iadd dX9_frozenOnes_17 (by omega) (by omega) ?_
      refine aw_iconst dX9_frozenOnes_18 (by decide) (by decide) ?_
      refine aw_iadd dX9_frozenOnes_19 (by omega) (by omega) ?_
      refine aw_iaload dX9_frozenOnes_20 (by first | rfl | assumption) (by omega) (by omega) ?_
      rw [e4]
      refine aw_if_le 30 dX9_frozenOnes_21 rfl (fun c21 => ?_) (fun c21 => ?_)
      · refine aw_iconst dX9_frozenOnes_30 (by decide) (by decide) ?_
        refine aw_iorw dX9_frozenOnes_31 ?_
        refine aw_istore_n (ls' := [_, _, _]) dX9_frozenOnes_32 (by decide) rfl ?_
        refine aw_iinc (ls' := [_, _, _]) dX9_frozenOnes_33 (by decide) rfl (by omega) (by omega) rfl ?_
        refine aw_goto 4 dX9_frozenOnes_36 rfl ?_
        first | (rw [bset_t (by simpa using c21)] at z; exact z) | (rw [bset_f (by simpa using c21), ← ior_0] at z; exact z)
      · refine aw_iconst dX9_frozenOnes_24 (by decide) (by decide) ?_
        refine aw_iload_n dX9_frozenOnes_25 rfl ?_
        refine aw_ishlw dX9_frozenOnes_26 ?_
        refine aw_goto 31 dX9_frozenOnes_27 rfl ?_
        refine aw_iorw dX9_frozenOnes_31 ?_
        refine aw_istore_n (ls' := [_, _, _]) dX9_frozenOnes_32 (by decide) rfl ?_
        refine aw_iinc (ls' := [_, _, _]) dX9_frozenOnes_33 (by decide) rfl (by omega) (by omega) rfl ?_
        refine aw_goto 4 dX9_frozenOnes_36 rfl ?_
        first | (rw [bset_t (by simpa using c21)] at z; exact z) | (rw [bset_f (by simpa using c21), ← ior_0] at z; exact z)
theorem c_X9_frozenOnes {t : Tp} (sa : t.2.1 a = (20, 53)) (ev : mV h a 0 = V) (v0 : 0 ≤ V 0 0) (v2 : V 0 0 ≤ 12) : SemE M_X9_frozenOnes [vR a] t h (some (vI (fzs V))) t h := by
  refine sem_intro (by decide) rfl (Nat.le_of_ble_eq_true rfl) rfl ?_
  refine aw_iconst dX9_frozenOnes_0 (by decide) (by decide) ?_
  refine aw_istore_n (ls' := [_, _, _]) dX9_frozenOnes_1 (by decide) rfl ?_
  refine aw_iconst dX9_frozenOnes_2 (by decide) (by decide) ?_
  refine aw_istore_n (ls' := [_, _, _]) dX9_frozenOnes_3 (by decide) rfl ?_
  exact l_frozen sa ev v0 v2 ⟨rfl, rfl, rfl⟩ (V 0 0).toNat 0 (by omega)
theorem onesN_bd {b : Nat} (hb : b ≤ 2147483647) : ∀ k : Nat, k ≤ 31 → 0 ≤ onesN b k ∧ onesN b k ≤ k
  | 0, _ => by show (0 : Int) ≤ 0 ∧ (0 : Int) ≤ 0; omega
  | k + 1, hk => by
    have z := onesN_bd hb k (by omega)
    have y : an (sr b k) 1 = ((b / 2 ^ k % 2 : Nat) : Int) := bit_eq hb (by omega)
    unfold onesN
    rw [y]
    omega
theorem l_ones {t : Tp} {Q : Option AV → Tp → Mem → Prop} {b : Nat} (hb : b < 4096) (hk : Q (some (vI (onesN b 12))) t h) :
    ∀ (m k : Nat), k + m = 12 → AW M_X9_ones 0 0 Q 4 [some (vI b), some (vI (onesN b k)), some (vI k)] [] t h 0 0 := by
  intro m
  induction m with
  | zero =>
    intro k hi
    have e1 : k = 12 := by omega
    subst e1
    refine aw_iload_n dX9_ones_4 rfl ?_
    refine aw_bipush dX9_ones_5 (by decide) (by decide) ?_
    refine aw_icmp_ge 24 dX9_ones_7 rfl (fun c7 => ?_) (fun c7 => ?_)
    · refine aw_iload_n dX9_ones_24 rfl ?_
      refine aw_ireturn dX9_ones_25 rfl (Nat.le_refl _) (Nat.le_refl _) ?_
      exact hk
    · exfalso; omega
  | succ m ih =>
    intro k hi
    have z := ih (k + 1) (by omega)
    have y : (Int32.ofInt (Int32.ofInt (b : Int) >>> (Int32.ofInt (k : Int) &&& 31)).toInt &&& Int32.ofInt 1).toInt = ((b / 2 ^ k % 2 : Nat) : Int) := bit_eq (by omega) (by omega)
    have bd := onesN_bd (b := b) (by omega) k (by omega)
    have eo : onesN b (k + 1) = onesN b k + (Int32.ofInt (Int32.ofInt (b : Int) >>> (Int32.ofInt (k : Int) &&& 31)).toInt &&& Int32.ofInt 1).toInt := rfl
    rw [eo, y] at z
    refine aw_iload_n dX9_ones_4 rfl ?_
    refine aw_bipush dX9_ones_5 (by decide) (by decide) ?_
    refine aw_icmp_ge 24 dX9_ones_7 rfl (fun c7 => ?_) (fun c7 => ?_)
    · exfalso; omega
    · refine aw_iload_n dX9_ones_10 rfl ?_
      refine aw_iload_n dX9_ones_11 rfl ?_
      refine aw_iload_n dX9_ones_12 rfl ?_
      refine aw_ishrw dX9_ones_13 ?_
      refine aw_iconst dX9_ones_14 (by decide) (by decide) ?_
      refine aw_iandw dX9_ones_15 ?_
      rw [y]
      refine aw_iadd dX9_ones_16 (by omega) (by omega) ?_
      refine aw_istore_n (ls' := [_, _, _]) dX9_ones_17 (by decide) rfl ?_
      refine aw_iinc (ls' := [_, _, _]) dX9_ones_18 (by decide) rfl (by omega) (by omega) rfl ?_
      refine aw_goto 4 dX9_ones_21 rfl ?_
      exact z
theorem c_X9_ones {t : Tp} {b : Nat} (hb : b < 4096) : SemE M_X9_ones [vI b] t h (some (vI (onesN b 12))) t h := by
  refine sem_intro (by decide) rfl (Nat.le_of_ble_eq_true rfl) rfl ?_
  refine aw_iconst dX9_ones_0 (by decide) (by decide) ?_
  refine aw_istore_n (ls' := [_, _, _]) dX9_ones_1 (by decide) rfl ?_
  refine aw_iconst dX9_ones_2 (by decide) (by decide) ?_
  refine aw_istore_n (ls' := [_, _, _]) dX9_ones_3 (by decide) rfl ?_
  exact l_ones hb ⟨rfl, rfl, rfl⟩ 12 0 (by omega)
theorem c_X9_anew (hM : MS h σ) (hW : WFst σ) : Sem M_X9_anew [vR 373] (TT e q n L) h 0 0 (PM (sp_anew σ) h (TT e q n L)) := by
  unfold sp_anew
  have ev : mV h 379 0 = s_liv σ := hM.2.2.2.2.1
  have e0 : h 379 0 = s_liv σ 0 1 := mA_w ev
  have ws := wf_sh hW.2.2.2.1
  obtain ⟨b, hb, hb2⟩ := bset_12 (P := fun i => decide (0 < s_liv σ 4 i)) (n := (s_liv σ 0 0).toNat) (by omega)
  have hb3 : fzs (s_liv σ) = (b : Int) := hb
  refine sem_intro (by decide) rfl (Nat.le_of_ble_eq_true rfl) rfl ?_
  refine aw_aload_n dX9_anew_0 rfl ?_
  refine aw_v0i dX9_anew_1 vl_RX9_191 (by first | rfl | assumption) (Nat.le_of_ble_eq_true rfl) (Nat.le_of_ble_eq_true rfl) (Nat.le_of_ble_eq_true rfl) (Nat.le_refl _) (Nat.le_refl _) (c_X9_isSheet) ?_
  refine aw_ifB_ne 10 dX9_anew_4 rfl (fun c4 => ?_) (fun c4 => ?_)
  · refine aw_aload_n dX9_anew_10 rfl ?_
    refine aw_v0q dX9_anew_11 vl_RX9_195 (by first | rfl | assumption) (Nat.le_of_ble_eq_true rfl) (Nat.le_of_ble_eq_true rfl) (Nat.le_of_ble_eq_true rfl) (Nat.le_refl _) (Nat.le_refl _) (n_notes hM hW) ?_
    intro v t' h1 hq
    obtain ⟨rfl, rfl, n1, n2, n3⟩ := hq
    have ev1 : mV h1 379 0 = s_liv σ := by rw [← ev]; exact mV_fr (n2 379 (by decide) (by decide))
    refine aw_aload_n dX9_anew_14 rfl ?_
    refine aw_getR1 dX9_anew_15 fx_RX9_25 (by first | rfl | assumption) (by first | rfl | assumption) ?_
    refine aw_s1i dX9_anew_18 sl_RX9_209 (Nat.le_of_ble_eq_true rfl) (Nat.le_of_ble_eq_true rfl) (Nat.le_of_ble_eq_true rfl) (Nat.le_refl _) (Nat.le_refl _) (c_X9_frozenOnes (a := 379) rfl ev1 (by omega) (by omega)) ?_
    rw [hb3]
    refine aw_s1i dX9_anew_21 sl_RX9_212 (Nat.le_of_ble_eq_true rfl) (Nat.le_of_ble_eq_true rfl) (Nat.le_of_ble_eq_true rfl) (Nat.le_refl _) (Nat.le_refl _) (c_X9_ones hb2) ?_
    refine aw_istore_n (ls' := [_, _]) dX9_anew_24 (by decide) rfl ?_
    refine aw_aload_n dX9_anew_25 rfl ?_
    refine aw_getR1 dX9_anew_26 fx_RX9_25 (by first | rfl | assumption) (by first | rfl | assumption) ?_
    refine aw_s1q dX9_anew_29 sl_RX9_215 (Nat.le_of_ble_eq_true rfl) (Nat.le_of_ble_eq_true rfl) (Nat.le_of_ble_eq_true rfl) (Nat.le_refl _) (Nat.le_refl _) (c_X9_begins (a := 379) rfl (by decide) ev1 (by omega) (by omega)) ?_
    intro v t' h2 hq
    obtain ⟨rfl, rfl, g1, g2⟩ := hq
    refine aw_iload_n dX9_anew_32 rfl ?_
    refine aw_ireturn dX9_anew_33 rfl (Nat.le_refl _) (Nat.le_refl _) ?_
    rw [if_neg (by omega), ← hb3]
    exact ⟨rfl, rfl, hM.noted (pushP_le hM.2.2.2.2.2.1.2.1) n1 n2 n3 g1 (fun c c1 c2 => g2 c c1)⟩
  · refine aw_ldc (n := -1000002) dX9_anew_7 kc_RX9_194 (by decide) ?_
    refine aw_ireturn dX9_anew_9 rfl (Nat.le_refl _) (Nat.le_refl _) ?_
    rw [if_pos (by omega)]
    exact ⟨rfl, rfl, hM, fun _ _ => rfl⟩
theorem c_X9_item {i w : Int} (hM : MS h σ) (hW : WFst σ) : Sem M_X9_item [vR 373, vI i, vI w] (TT e q n L) h 0 0 (PM (sp_item σ i w) h (TT e q n L)) := by
  unfold sp_item
  have ev : mV h 379 0 = s_liv σ := hM.2.2.2.2.1
  have ec : h 379 3 = s_liv σ 0 0 := mA_c ev
  have ws := wf_sh hW.2.2.2.1
  refine sem_intro (by decide) rfl (Nat.le_of_ble_eq_true rfl) rfl ?_
  refine aw_aload_n dX9_item_0 rfl ?_
  refine aw_iload_n dX9_item_1 rfl ?_
  refine aw_v1i dX9_item_2 vl_RX9_202 (by first | rfl | assumption) (Nat.le_of_ble_eq_true rfl) (Nat.le_of_ble_eq_true rfl) (Nat.le_of_ble_eq_true rfl) (Nat.le_refl _) (Nat.le_refl _) (c_X9_isItem (by omega) (by omega)) ?_
  refine aw_ifB_ne 11 dX9_item_5 rfl (fun c5 => ?_) (fun c5 => ?_)
  · have hL := wf_liv hW.2.2.2.1 (by omega)
    rw [if_neg (by omega)]
    refine aw_aload_n dX9_item_11 rfl ?_
    refine aw_aload_n dX9_item_12 rfl ?_
    refine aw_getR1 dX9_item_13 fx_RX9_25 (by first | rfl | assumption) (by first | rfl | assumption) ?_
    refine aw_ldc (n := -1000000) dX9_item_16 kc_RX9_56 (by decide) ?_
    refine aw_iconst dX9_item_18 (by decide) (by decide) ?_
    refine aw_v3q dX9_item_19 vl_RX9_162 (by first | rfl | assumption) (Nat.le_of_ble_eq_true rfl) (Nat.le_of_ble_eq_true rfl) (Nat.le_of_ble_eq_true rfl) (Nat.le_refl _) (Nat.le_refl _) (c_X9_setsOut (a := 379) rfl (by decide) ev hL.1 (by decide)) ?_
    intro v t' h1 hq
    obtain ⟨rfl, rfl, f1, f2⟩ := hq
    have f3 := f2 i.toNat (by omega)
    rw [am_nat (by omega), xx_zz (by omega)] at f3
    have fs : SM h h1 := sm_of (fun c _ _ _ c4 _ _ => f1 c c4)
    have ev1 : mV h1 379 0 = s_liv σ := by rw [← ev]; exact mV_fr (f1 379 (by decide))
    have r2 := mA2 (k := i) ev1 (by omega) (by omega)
    have r3 := mA3 (k := i) ev1 (by omega) (by omega)
    have r4 := mA4 (k := i) ev1 (by omega) (by omega)
    refine aw_iload_n dX9_item_22 rfl ?_
    refine aw_table 143 dX9_item_23 rfl (fun c23 => ?_) (fun g23a g23b => ?_)
    · refine aw_ldc (n := -1000001) dX9_item_143 kc_RX9_70 (by decide) ?_
      refine aw_ireturn dX9_item_145 rfl (Nat.le_refl _) (Nat.le_refl _) ?_
      exact ⟨am_ri (by show _ = (if _ then _ else _); rw [if_neg (by omega), if_neg (by omega), if_neg (by omega), if_neg (by omega), if_neg (by omega), if_neg (by omega), if_neg (by omega)]), rfl, fs.ms hM, fun c hc => fs.1 c (by omega)⟩
    · rcases tcs_0_6 g23a g23b with c23 | c23 | c23 | c23 | c23 | c23 | c23
      · refine aw_tableIn 64 dX9_item_23 g23a g23b (by rw [c23]; rfl) rfl ?_
        refine aw_aload_n dX9_item_64 rfl ?_
        refine aw_getR1 dX9_item_65 fx_RX9_25 (by first | rfl | assumption) (by first | rfl | assumption) ?_
        refine aw_iconst dX9_item_68 (by decide) (by decide) ?_
        refine aw_iconst dX9_item_69 (by decide) (by decide) ?_
        refine aw_iload_n dX9_item_70 rfl ?_
        refine aw_imul dX9_item_71 (by omega) (by omega) ?_
        refine aw_iadd dX9_item_72 (by omega) (by omega) ?_
        refine aw_iconst dX9_item_73 (by decide) (by decide) ?_
        refine aw_iadd dX9_item_74 (by omega) (by omega) ?_
        refine aw_iaload dX9_item_75 (by first | rfl | assumption) (by omega) (by omega) ?_
        refine aw_ireturn dX9_item_76 rfl (Nat.le_refl _) (Nat.le_refl _) ?_
        exact ⟨am_ri (by show _ = (if _ then _ else _); rw [if_pos c23]; exact r2), rfl, fs.ms hM, fun c hc => fs.1 c (by omega)⟩
      · refine aw_tableIn 77 dX9_item_23 g23a g23b (by rw [c23]; rfl) rfl ?_
        refine aw_aload_n dX9_item_77 rfl ?_
        refine aw_getR1 dX9_item_78 fx_RX9_25 (by first | rfl | assumption) (by first | rfl | assumption) ?_
        refine aw_iconst dX9_item_81 (by decide) (by decide) ?_
        refine aw_iconst dX9_item_82 (by decide) (by decide) ?_
        refine aw_iload_n dX9_item_83 rfl ?_
        refine aw_imul dX9_item_84 (by omega) (by omega) ?_
        refine aw_iadd dX9_item_85 (by omega) (by omega) ?_
        refine aw_iconst dX9_item_86 (by decide) (by decide) ?_
        refine aw_iadd dX9_item_87 (by omega) (by omega) ?_
        refine aw_iaload dX9_item_88 (by first | rfl | assumption) (by omega) (by omega) ?_
        refine aw_ireturn dX9_item_89 rfl (Nat.le_refl _) (Nat.le_refl _) ?_
        exact ⟨am_ri (by show _ = (if _ then _ else _); rw [if_neg (by omega), if_pos c23]; exact r3), rfl, fs.ms hM, fun c hc => fs.1 c (by omega)⟩
      · refine aw_tableIn 90 dX9_item_23 g23a g23b (by rw [c23]; rfl) rfl ?_
        refine aw_aload_n dX9_item_90 rfl ?_
        refine aw_getR1 dX9_item_91 fx_RX9_25 (by first | rfl | assumption) (by first | rfl | assumption) ?_
        refine aw_iconst dX9_item_94 (by decide) (by decide) ?_
        refine aw_iconst dX9_item_95 (by decide) (by decide) ?_
        refine aw_iload_n dX9_item_96 rfl ?_
        refine aw_imul dX9_item_97 (by omega) (by omega) ?_
        refine aw_iadd dX9_item_98 (by omega) (by omega) ?_
        refine aw_iconst dX9_item_99 (by decide) (by decide) ?_
        refine aw_iadd dX9_item_100 (by omega) (by omega) ?_
        refine aw_iaload dX9_item_101 (by first | rfl | assumption) (by omega) (by omega) ?_
        refine aw_ireturn dX9_item_102 rfl (Nat.le_refl _) (Nat.le_refl _) ?_
        exact ⟨am_ri (by show _ = (if _ then _ else _); rw [if_neg (by omega), if_neg (by omega), if_pos c23]; exact r4), rfl, fs.ms hM, fun c hc => fs.1 c (by omega)⟩
      · refine aw_tableIn 103 dX9_item_23 g23a g23b (by rw [c23]; rfl) rfl ?_
        refine aw_aload_n dX9_item_103 rfl ?_
        refine aw_getR1 dX9_item_104 fx_RX9_25 (by first | rfl | assumption) (by first | rfl | assumption) ?_
        refine aw_iload_n dX9_item_107 rfl ?_
        refine aw_s2i dX9_item_108 sl_RX9_158 (Nat.le_of_ble_eq_true rfl) (Nat.le_of_ble_eq_true rfl) (Nat.le_of_ble_eq_true rfl) (Nat.le_refl _) (Nat.le_refl _) (c_X9_wide (a := 379) rfl ev1 hL.1 (by omega) (by omega)) ?_
        refine aw_ireturn dX9_item_111 rfl (Nat.le_refl _) (Nat.le_refl _) ?_
        exact ⟨am_ri (by show _ = (if _ then _ else _); rw [if_neg (by omega), if_neg (by omega), if_neg (by omega), if_pos c23]), rfl, fs.ms hM, fun c hc => fs.1 c (by omega)⟩
      · refine aw_tableIn 112 dX9_item_23 g23a g23b (by rw [c23]; rfl) rfl ?_
        refine aw_aload_n dX9_item_112 rfl ?_
        refine aw_getR1 dX9_item_113 fx_RX9_44 (by first | rfl | assumption) (by first | rfl | assumption) ?_
        refine aw_iconst dX9_item_116 (by decide) (by decide) ?_
        refine aw_iload_n dX9_item_117 rfl ?_
        refine aw_imul dX9_item_118 (by omega) (by omega) ?_
        refine aw_iaload dX9_item_119 (by first | rfl | assumption) (by omega) (by omega) ?_
        refine aw_ireturn dX9_item_120 rfl (Nat.le_refl _) (Nat.le_refl _) ?_
        exact ⟨am_ri (by show _ = (if _ then _ else _); rw [if_neg (by omega), if_neg (by omega), if_neg (by omega), if_neg (by omega), if_pos c23]; exact f3.1), rfl, fs.ms hM, fun c hc => fs.1 c (by omega)⟩
      · refine aw_tableIn 121 dX9_item_23 g23a g23b (by rw [c23]; rfl) rfl ?_
        refine aw_aload_n dX9_item_121 rfl ?_
        refine aw_getR1 dX9_item_122 fx_RX9_44 (by first | rfl | assumption) (by first | rfl | assumption) ?_
        refine aw_iconst dX9_item_125 (by decide) (by decide) ?_
        refine aw_iload_n dX9_item_126 rfl ?_
        refine aw_imul dX9_item_127 (by omega) (by omega) ?_
        refine aw_iconst dX9_item_128 (by decide) (by decide) ?_
        refine aw_iadd dX9_item_129 (by omega) (by omega) ?_
        refine aw_iaload dX9_item_130 (by first | rfl | assumption) (by omega) (by omega) ?_
        refine aw_ireturn dX9_item_131 rfl (Nat.le_refl _) (Nat.le_refl _) ?_
        exact ⟨am_ri (by show _ = (if _ then _ else _); rw [if_neg (by omega), if_neg (by omega), if_neg (by omega), if_neg (by omega), if_neg (by omega), if_pos c23]; exact f3.2.1), rfl, fs.ms hM, fun c hc => fs.1 c (by omega)⟩
      · refine aw_tableIn 132 dX9_item_23 g23a g23b (by rw [c23]; rfl) rfl ?_
        refine aw_aload_n dX9_item_132 rfl ?_
        refine aw_getR1 dX9_item_133 fx_RX9_44 (by first | rfl | assumption) (by first | rfl | assumption) ?_
        refine aw_iconst dX9_item_136 (by decide) (by decide) ?_
        refine aw_iload_n dX9_item_137 rfl ?_
        refine aw_imul dX9_item_138 (by omega) (by omega) ?_
        refine aw_iconst dX9_item_139 (by decide) (by decide) ?_
        refine aw_iadd dX9_item_140 (by omega) (by omega) ?_
        refine aw_iaload dX9_item_141 (by first | rfl | assumption) (by omega) (by omega) ?_
        refine aw_ireturn dX9_item_142 rfl (Nat.le_refl _) (Nat.le_refl _) ?_
        exact ⟨am_ri (by show _ = (if _ then _ else _); rw [if_neg (by omega), if_neg (by omega), if_neg (by omega), if_neg (by omega), if_neg (by omega), if_neg (by omega), if_pos c23]; exact f3.2.2), rfl, fs.ms hM, fun c hc => fs.1 c (by omega)⟩
  · refine aw_ldc (n := -1000001) dX9_item_8 kc_RX9_70 (by decide) ?_
    refine aw_ireturn dX9_item_10 rfl (Nat.le_refl _) (Nat.le_refl _) ?_
    rw [if_pos (by omega)]
    exact ⟨rfl, rfl, hM, fun _ _ => rfl⟩
theorem c_X9_kindIn {i : Int} (h0 : 0 ≤ i) (h1 : i < 12) : SemE M_X9_kindIn [vR 373, vI i] (TT e q n L) h (some (vI (h 379 (5 + 4 * i)))) (TT e q n L) h := by
  refine sem_intro (by decide) rfl (Nat.le_of_ble_eq_true rfl) rfl ?_
  refine aw_aload_n dX9_kindIn_0 rfl ?_
  refine aw_getR1 dX9_kindIn_1 fx_RX9_25 (by first | rfl | assumption) (by first | rfl | assumption) ?_
  refine aw_iconst dX9_kindIn_4 (by decide) (by decide) ?_
  refine aw_iconst dX9_kindIn_5 (by decide) (by decide) ?_
  refine aw_iload_n dX9_kindIn_6 rfl ?_
  refine aw_imul dX9_kindIn_7 (by omega) (by omega) ?_
  refine aw_iadd dX9_kindIn_8 (by omega) (by omega) ?_
  refine aw_iaload dX9_kindIn_9 (by first | rfl | assumption) (by omega) (by omega) ?_
  refine aw_ireturn dX9_kindIn_10 rfl (Nat.le_refl _) (Nat.le_refl _) ?_
  exact ⟨rfl, rfl, rfl⟩
theorem c_X9_kind {i : Int} (hM : MS h σ) (hW : WFst σ) : Sem M_X9_kind [vR 373, vI i] (TT e q n L) h 0 0 (PM (sp_kind σ i) h (TT e q n L)) := by
  unfold sp_kind
  have ev : mV h 379 0 = s_liv σ := hM.2.2.2.2.1
  have ec : h 379 3 = s_liv σ 0 0 := mA_c ev
  have ws := wf_sh hW.2.2.2.1
  have r1 : 0 ≤ i ∧ i ≤ h 379 3 - 1 → h 379 (5 + 4 * i) = s_liv σ 1 i := fun z => mA1 ev (by omega) (by omega)
  refine sem_intro (by decide) rfl (Nat.le_of_ble_eq_true rfl) rfl ?_
  refine aw_aload_n dX9_kind_0 rfl ?_
  refine aw_iload_n dX9_kind_1 rfl ?_
  refine aw_v1i dX9_kind_2 vl_RX9_202 (by first | rfl | assumption) (Nat.le_of_ble_eq_true rfl) (Nat.le_of_ble_eq_true rfl) (Nat.le_of_ble_eq_true rfl) (Nat.le_refl _) (Nat.le_refl _) (c_X9_isItem (by omega) (by omega)) ?_
  refine aw_ifB_eq 16 dX9_kind_5 rfl (fun c5 => ?_) (fun c5 => ?_)
  · refine aw_ldc (n := -1000001) dX9_kind_16 kc_RX9_70 (by decide) ?_
    refine aw_ireturn dX9_kind_18 rfl (Nat.le_refl _) (Nat.le_refl _) ?_
    first | (rw [if_pos (by omega)]; exact ⟨rfl, rfl, hM, fun _ _ => rfl⟩) | (rw [if_neg (by omega)]; exact ⟨am_ri (r1 (by omega)), rfl, hM, fun _ _ => rfl⟩)
  · refine aw_aload_n dX9_kind_8 rfl ?_
    refine aw_iload_n dX9_kind_9 rfl ?_
    refine aw_v1i dX9_kind_10 vl_RX9_248 (by first | rfl | assumption) (Nat.le_of_ble_eq_true rfl) (Nat.le_of_ble_eq_true rfl) (Nat.le_of_ble_eq_true rfl) (Nat.le_refl _) (Nat.le_refl _) (c_X9_kindIn (by omega) (by omega)) ?_
    refine aw_goto 18 dX9_kind_13 rfl ?_
    refine aw_ireturn dX9_kind_18 rfl (Nat.le_refl _) (Nat.le_refl _) ?_
    first | (rw [if_pos (by omega)]; exact ⟨rfl, rfl, hM, fun _ _ => rfl⟩) | (rw [if_neg (by omega)]; exact ⟨am_ri (r1 (by omega)), rfl, hM, fun _ _ => rfl⟩)
theorem c_X9_as {i k : Int} (hM : MS h σ) (hW : WFst σ) : Sem M_X9_as [vR 373, vI i, vI k] (TT e q n L) h 0 0 (PM (sp_as σ i k) h (TT e q n L)) := by
  unfold sp_as
  have ev : mV h 379 0 = s_liv σ := hM.2.2.2.2.1
  have ec : h 379 3 = s_liv σ 0 0 := mA_c ev
  have ws := wf_sh hW.2.2.2.1
  have k1 : 0 ≤ i ∧ i ≤ h 379 3 - 1 → h 379 (5 + 4 * i) = s_liv σ 1 i ∧ 1 ≤ s_liv σ 1 i ∧ s_liv σ 1 i ≤ 5 := fun z => by
    have hL := wf_liv hW.2.2.2.1 (by omega)
    have := hL.1.2.2.2.2.2.2.2.2 i (by omega) (by omega)
    exact ⟨mA1 ev (by omega) (by omega), this.1, this.2.1⟩
  refine sem_intro (by decide) rfl (Nat.le_of_ble_eq_true rfl) rfl ?_
  refine aw_aload_n dX9_as_0 rfl ?_
  refine aw_iload_n dX9_as_1 rfl ?_
  refine aw_v1i dX9_as_2 vl_RX9_202 (by first | rfl | assumption) (Nat.le_of_ble_eq_true rfl) (Nat.le_of_ble_eq_true rfl) (Nat.le_of_ble_eq_true rfl) (Nat.le_refl _) (Nat.le_refl _) (c_X9_isItem (by omega) (by omega)) ?_
  refine aw_ifB_eq 17 dX9_as_5 rfl (fun c5 => ?_) (fun c5 => ?_)
  · refine aw_ldc (n := -1000001) dX9_as_17 kc_RX9_70 (by decide) ?_
    refine aw_ireturn dX9_as_19 rfl (Nat.le_refl _) (Nat.le_refl _) ?_
    rw [if_pos (by omega)]
    exact ⟨rfl, rfl, hM, fun _ _ => rfl⟩
  · refine aw_iload_n dX9_as_8 rfl ?_
    refine aw_iconst dX9_as_9 (by decide) (by decide) ?_
    refine aw_iconst dX9_as_10 (by decide) (by decide) ?_
    refine aw_s3i dX9_as_11 sl_RX9_62 (Nat.le_of_ble_eq_true rfl) (Nat.le_of_ble_eq_true rfl) (Nat.le_of_ble_eq_true rfl) (Nat.le_refl _) (Nat.le_refl _) (c_X9_in) ?_
    refine aw_ifB_ne 20 dX9_as_14 rfl (fun c14 => ?_) (fun c14 => ?_)
    · obtain ⟨kk1, kk2, kk3⟩ := k1 c5
      rw [if_neg (by omega)]
      refine aw_aload_n dX9_as_20 rfl ?_
      refine aw_iload_n dX9_as_21 rfl ?_
      refine aw_v1i dX9_as_22 vl_RX9_248 (by first | rfl | assumption) (Nat.le_of_ble_eq_true rfl) (Nat.le_of_ble_eq_true rfl) (Nat.le_of_ble_eq_true rfl) (Nat.le_refl _) (Nat.le_refl _) (c_X9_kindIn (by omega) (by omega)) ?_
      rw [kk1]
      refine aw_istore_n (ls' := [_, _, _, _, _]) dX9_as_25 (by decide) rfl ?_
      refine aw_iload_n dX9_as_26 rfl ?_
      refine aw_if_eq 55 dX9_as_27 rfl (fun c27 => ?_) (fun c27 => ?_)
      · refine aw_iconst dX9_as_55 (by decide) (by decide) ?_
        refine aw_goto 60 dX9_as_56 rfl ?_
        refine aw_istore (ls' := [_, _, _, _, _]) dX9_as_60 (by decide) rfl ?_
        refine aw_iload dX9_as_62 rfl ?_
        refine aw_if_eq 75 dX9_as_64 rfl (fun c64 => ?_) (fun c64 => ?_)
        · refine aw_aload_n dX9_as_75 rfl ?_
          refine aw_iconst dX9_as_76 (by decide) (by decide) ?_
          refine aw_v1i dX9_as_77 vl_RX9_71 (by first | rfl | assumption) (Nat.le_of_ble_eq_true rfl) (Nat.le_of_ble_eq_true rfl) (Nat.le_of_ble_eq_true rfl) (Nat.le_refl _) (Nat.le_refl _) (c_X9_found (by decide) (by decide)) ?_
          refine aw_ireturn dX9_as_80 rfl (Nat.le_refl _) (Nat.le_refl _) ?_
          first | (exfalso; omega) | (rw [if_pos (by omega)]; exact ⟨rfl, rfl, hM.fnd, fun c hc => am_up_ne (by omega)⟩) | (rw [if_neg (by omega)]; exact ⟨rfl, rfl, hM.fnd, fun c hc => am_up_ne (by omega)⟩)
        · refine aw_aload_n dX9_as_67 rfl ?_
          refine aw_iload_n dX9_as_68 rfl ?_
          refine aw_v1i dX9_as_69 vl_RX9_75 (by first | rfl | assumption) (Nat.le_of_ble_eq_true rfl) (Nat.le_of_ble_eq_true rfl) (Nat.le_of_ble_eq_true rfl) (Nat.le_refl _) (Nat.le_refl _) (c_X9_well) ?_
          refine aw_goto 80 dX9_as_72 rfl ?_
          refine aw_ireturn dX9_as_80 rfl (Nat.le_refl _) (Nat.le_refl _) ?_
          first | (exfalso; omega) | (rw [if_pos (by omega)]; exact ⟨rfl, rfl, hM.fnd, fun c hc => am_up_ne (by omega)⟩) | (rw [if_neg (by omega)]; exact ⟨rfl, rfl, hM.fnd, fun c hc => am_up_ne (by omega)⟩)
      · refine aw_iload_n dX9_as_30 rfl ?_
        refine aw_iload_n dX9_as_31 rfl ?_
        refine aw_icmp_eq 55 dX9_as_32 rfl (fun c32 => ?_) (fun c32 => ?_)
        · refine aw_iconst dX9_as_55 (by decide) (by decide) ?_
          refine aw_goto 60 dX9_as_56 rfl ?_
          refine aw_istore (ls' := [_, _, _, _, _]) dX9_as_60 (by decide) rfl ?_
          refine aw_iload dX9_as_62 rfl ?_
          refine aw_if_eq 75 dX9_as_64 rfl (fun c64 => ?_) (fun c64 => ?_)
          · refine aw_aload_n dX9_as_75 rfl ?_
            refine aw_iconst dX9_as_76 (by decide) (by decide) ?_
            refine aw_v1i dX9_as_77 vl_RX9_71 (by first | rfl | assumption) (Nat.le_of_ble_eq_true rfl) (Nat.le_of_ble_eq_true rfl) (Nat.le_of_ble_eq_true rfl) (Nat.le_refl _) (Nat.le_refl _) (c_X9_found (by decide) (by decide)) ?_
            refine aw_ireturn dX9_as_80 rfl (Nat.le_refl _) (Nat.le_refl _) ?_
            first | (exfalso; omega) | (rw [if_pos (by omega)]; exact ⟨rfl, rfl, hM.fnd, fun c hc => am_up_ne (by omega)⟩) | (rw [if_neg (by omega)]; exact ⟨rfl, rfl, hM.fnd, fun c hc => am_up_ne (by omega)⟩)
          · refine aw_aload_n dX9_as_67 rfl ?_
            refine aw_iload_n dX9_as_68 rfl ?_
            refine aw_v1i dX9_as_69 vl_RX9_75 (by first | rfl | assumption) (Nat.le_of_ble_eq_true rfl) (Nat.le_of_ble_eq_true rfl) (Nat.le_of_ble_eq_true rfl) (Nat.le_refl _) (Nat.le_refl _) (c_X9_well) ?_
            refine aw_goto 80 dX9_as_72 rfl ?_
            refine aw_ireturn dX9_as_80 rfl (Nat.le_refl _) (Nat.le_refl _) ?_
            first | (exfalso; omega) | (rw [if_pos (by omega)]; exact ⟨rfl, rfl, hM.fnd, fun c hc => am_up_ne (by omega)⟩) | (rw [if_neg (by omega)]; exact ⟨rfl, rfl, hM.fnd, fun c hc => am_up_ne (by omega)⟩)
        · refine aw_iload_n dX9_as_35 rfl ?_
          refine aw_iconst dX9_as_36 (by decide) (by decide) ?_
          refine aw_icmp_ne 45 dX9_as_37 rfl (fun c37 => ?_) (fun c37 => ?_)
          · refine aw_iload_n dX9_as_45 rfl ?_
            refine aw_iconst dX9_as_46 (by decide) (by decide) ?_
            refine aw_icmp_ne 59 dX9_as_47 rfl (fun c47 => ?_) (fun c47 => ?_)
            · refine aw_iconst dX9_as_59 (by decide) (by decide) ?_
              refine aw_istore (ls' := [_, _, _, _, _]) dX9_as_60 (by decide) rfl ?_
              refine aw_iload dX9_as_62 rfl ?_
              refine aw_if_eq 75 dX9_as_64 rfl (fun c64 => ?_) (fun c64 => ?_)
              · refine aw_aload_n dX9_as_75 rfl ?_
                refine aw_iconst dX9_as_76 (by decide) (by decide) ?_
                refine aw_v1i dX9_as_77 vl_RX9_71 (by first | rfl | assumption) (Nat.le_of_ble_eq_true rfl) (Nat.le_of_ble_eq_true rfl) (Nat.le_of_ble_eq_true rfl) (Nat.le_refl _) (Nat.le_refl _) (c_X9_found (by decide) (by decide)) ?_
                refine aw_ireturn dX9_as_80 rfl (Nat.le_refl _) (Nat.le_refl _) ?_
                first | (exfalso; omega) | (rw [if_pos (by omega)]; exact ⟨rfl, rfl, hM.fnd, fun c hc => am_up_ne (by omega)⟩) | (rw [if_neg (by omega)]; exact ⟨rfl, rfl, hM.fnd, fun c hc => am_up_ne (by omega)⟩)
              · refine aw_aload_n dX9_as_67 rfl ?_
                refine aw_iload_n dX9_as_68 rfl ?_
                refine aw_v1i dX9_as_69 vl_RX9_75 (by first | rfl | assumption) (Nat.le_of_ble_eq_true rfl) (Nat.le_of_ble_eq_true rfl) (Nat.le_of_ble_eq_true rfl) (Nat.le_refl _) (Nat.le_refl _) (c_X9_well) ?_
                refine aw_goto 80 dX9_as_72 rfl ?_
                refine aw_ireturn dX9_as_80 rfl (Nat.le_refl _) (Nat.le_refl _) ?_
                first | (exfalso; omega) | (rw [if_pos (by omega)]; exact ⟨rfl, rfl, hM.fnd, fun c hc => am_up_ne (by omega)⟩) | (rw [if_neg (by omega)]; exact ⟨rfl, rfl, hM.fnd, fun c hc => am_up_ne (by omega)⟩)
            · refine aw_iload_n dX9_as_50 rfl ?_
              refine aw_iconst dX9_as_51 (by decide) (by decide) ?_
              refine aw_icmp_ne 59 dX9_as_52 rfl (fun c52 => ?_) (fun c52 => ?_)
              · refine aw_iconst dX9_as_59 (by decide) (by decide) ?_
                refine aw_istore (ls' := [_, _, _, _, _]) dX9_as_60 (by decide) rfl ?_
                refine aw_iload dX9_as_62 rfl ?_
                refine aw_if_eq 75 dX9_as_64 rfl (fun c64 => ?_) (fun c64 => ?_)
                · refine aw_aload_n dX9_as_75 rfl ?_
                  refine aw_iconst dX9_as_76 (by decide) (by decide) ?_
                  refine aw_v1i dX9_as_77 vl_RX9_71 (by first | rfl | assumption) (Nat.le_of_ble_eq_true rfl) (Nat.le_of_ble_eq_true rfl) (Nat.le_of_ble_eq_true rfl) (Nat.le_refl _) (Nat.le_refl _) (c_X9_found (by decide) (by decide)) ?_
                  refine aw_ireturn dX9_as_80 rfl (Nat.le_refl _) (Nat.le_refl _) ?_
                  first | (exfalso; omega) | (rw [if_pos (by omega)]; exact ⟨rfl, rfl, hM.fnd, fun c hc => am_up_ne (by omega)⟩) | (rw [if_neg (by omega)]; exact ⟨rfl, rfl, hM.fnd, fun c hc => am_up_ne (by omega)⟩)
                · refine aw_aload_n dX9_as_67 rfl ?_
                  refine aw_iload_n dX9_as_68 rfl ?_
                  refine aw_v1i dX9_as_69 vl_RX9_75 (by first | rfl | assumption) (Nat.le_of_ble_eq_true rfl) (Nat.le_of_ble_eq_true rfl) (Nat.le_of_ble_eq_true rfl) (Nat.le_refl _) (Nat.le_refl _) (c_X9_well) ?_
                  refine aw_goto 80 dX9_as_72 rfl ?_
                  refine aw_ireturn dX9_as_80 rfl (Nat.le_refl _) (Nat.le_refl _) ?_
                  first | (exfalso; omega) | (rw [if_pos (by omega)]; exact ⟨rfl, rfl, hM.fnd, fun c hc => am_up_ne (by omega)⟩) | (rw [if_neg (by omega)]; exact ⟨rfl, rfl, hM.fnd, fun c hc => am_up_ne (by omega)⟩)
              · refine aw_iconst dX9_as_55 (by decide) (by decide) ?_
                refine aw_goto 60 dX9_as_56 rfl ?_
                refine aw_istore (ls' := [_, _, _, _, _]) dX9_as_60 (by decide) rfl ?_
                refine aw_iload dX9_as_62 rfl ?_
                refine aw_if_eq 75 dX9_as_64 rfl (fun c64 => ?_) (fun c64 => ?_)
                · refine aw_aload_n dX9_as_75 rfl ?_
                  refine aw_iconst dX9_as_76 (by decide) (by decide) ?_
                  refine aw_v1i dX9_as_77 vl_RX9_71 (by first | rfl | assumption) (Nat.le_of_ble_eq_true rfl) (Nat.le_of_ble_eq_true rfl) (Nat.le_of_ble_eq_true rfl) (Nat.le_refl _) (Nat.le_refl _) (c_X9_found (by decide) (by decide)) ?_
                  refine aw_ireturn dX9_as_80 rfl (Nat.le_refl _) (Nat.le_refl _) ?_
                  first | (exfalso; omega) | (rw [if_pos (by omega)]; exact ⟨rfl, rfl, hM.fnd, fun c hc => am_up_ne (by omega)⟩) | (rw [if_neg (by omega)]; exact ⟨rfl, rfl, hM.fnd, fun c hc => am_up_ne (by omega)⟩)
                · refine aw_aload_n dX9_as_67 rfl ?_
                  refine aw_iload_n dX9_as_68 rfl ?_
                  refine aw_v1i dX9_as_69 vl_RX9_75 (by first | rfl | assumption) (Nat.le_of_ble_eq_true rfl) (Nat.le_of_ble_eq_true rfl) (Nat.le_of_ble_eq_true rfl) (Nat.le_refl _) (Nat.le_refl _) (c_X9_well) ?_
                  refine aw_goto 80 dX9_as_72 rfl ?_
                  refine aw_ireturn dX9_as_80 rfl (Nat.le_refl _) (Nat.le_refl _) ?_
                  first | (exfalso; omega) | (rw [if_pos (by omega)]; exact ⟨rfl, rfl, hM.fnd, fun c hc => am_up_ne (by omega)⟩) | (rw [if_neg (by omega)]; exact ⟨rfl, rfl, hM.fnd, fun c hc => am_up_ne (by omega)⟩)
          · refine aw_iload_n dX9_as_40 rfl ?_
            refine aw_iconst dX9_as_41 (by decide) (by decide) ?_
            refine aw_icmp_lt 55 dX9_as_42 rfl (fun c42 => ?_) (fun c42 => ?_)
            · refine aw_iconst dX9_as_55 (by decide) (by decide) ?_
              refine aw_goto 60 dX9_as_56 rfl ?_
              refine aw_istore (ls' := [_, _, _, _, _]) dX9_as_60 (by decide) rfl ?_
              refine aw_iload dX9_as_62 rfl ?_
              refine aw_if_eq 75 dX9_as_64 rfl (fun c64 => ?_) (fun c64 => ?_)
              · refine aw_aload_n dX9_as_75 rfl ?_
                refine aw_iconst dX9_as_76 (by decide) (by decide) ?_
                refine aw_v1i dX9_as_77 vl_RX9_71 (by first | rfl | assumption) (Nat.le_of_ble_eq_true rfl) (Nat.le_of_ble_eq_true rfl) (Nat.le_of_ble_eq_true rfl) (Nat.le_refl _) (Nat.le_refl _) (c_X9_found (by decide) (by decide)) ?_
                refine aw_ireturn dX9_as_80 rfl (Nat.le_refl _) (Nat.le_refl _) ?_
                first | (exfalso; omega) | (rw [if_pos (by omega)]; exact ⟨rfl, rfl, hM.fnd, fun c hc => am_up_ne (by omega)⟩) | (rw [if_neg (by omega)]; exact ⟨rfl, rfl, hM.fnd, fun c hc => am_up_ne (by omega)⟩)
              · refine aw_aload_n dX9_as_67 rfl ?_
                refine aw_iload_n dX9_as_68 rfl ?_
                refine aw_v1i dX9_as_69 vl_RX9_75 (by first | rfl | assumption) (Nat.le_of_ble_eq_true rfl) (Nat.le_of_ble_eq_true rfl) (Nat.le_of_ble_eq_true rfl) (Nat.le_refl _) (Nat.le_refl _) (c_X9_well) ?_
                refine aw_goto 80 dX9_as_72 rfl ?_
                refine aw_ireturn dX9_as_80 rfl (Nat.le_refl _) (Nat.le_refl _) ?_
                first | (exfalso; omega) | (rw [if_pos (by omega)]; exact ⟨rfl, rfl, hM.fnd, fun c hc => am_up_ne (by omega)⟩) | (rw [if_neg (by omega)]; exact ⟨rfl, rfl, hM.fnd, fun c hc => am_up_ne (by omega)⟩)
            · refine aw_iload_n dX9_as_45 rfl ?_
              refine aw_iconst dX9_as_46 (by decide) (by decide) ?_
              refine aw_icmp_ne 59 dX9_as_47 rfl (fun c47 => ?_) (fun c47 => ?_)
              · refine aw_iconst dX9_as_59 (by decide) (by decide) ?_
                refine aw_istore (ls' := [_, _, _, _, _]) dX9_as_60 (by decide) rfl ?_
                refine aw_iload dX9_as_62 rfl ?_
                refine aw_if_eq 75 dX9_as_64 rfl (fun c64 => ?_) (fun c64 => ?_)
                · refine aw_aload_n dX9_as_75 rfl ?_
                  refine aw_iconst dX9_as_76 (by decide) (by decide) ?_
                  refine aw_v1i dX9_as_77 vl_RX9_71 (by first | rfl | assumption) (Nat.le_of_ble_eq_true rfl) (Nat.le_of_ble_eq_true rfl) (Nat.le_of_ble_eq_true rfl) (Nat.le_refl _) (Nat.le_refl _) (c_X9_found (by decide) (by decide)) ?_
                  refine aw_ireturn dX9_as_80 rfl (Nat.le_refl _) (Nat.le_refl _) ?_
                  first | (exfalso; omega) | (rw [if_pos (by omega)]; exact ⟨rfl, rfl, hM.fnd, fun c hc => am_up_ne (by omega)⟩) | (rw [if_neg (by omega)]; exact ⟨rfl, rfl, hM.fnd, fun c hc => am_up_ne (by omega)⟩)
                · refine aw_aload_n dX9_as_67 rfl ?_
                  refine aw_iload_n dX9_as_68 rfl ?_
                  refine aw_v1i dX9_as_69 vl_RX9_75 (by first | rfl | assumption) (Nat.le_of_ble_eq_true rfl) (Nat.le_of_ble_eq_true rfl) (Nat.le_of_ble_eq_true rfl) (Nat.le_refl _) (Nat.le_refl _) (c_X9_well) ?_
                  refine aw_goto 80 dX9_as_72 rfl ?_
                  refine aw_ireturn dX9_as_80 rfl (Nat.le_refl _) (Nat.le_refl _) ?_
                  first | (exfalso; omega) | (rw [if_pos (by omega)]; exact ⟨rfl, rfl, hM.fnd, fun c hc => am_up_ne (by omega)⟩) | (rw [if_neg (by omega)]; exact ⟨rfl, rfl, hM.fnd, fun c hc => am_up_ne (by omega)⟩)
              · refine aw_iload_n dX9_as_50 rfl ?_
                refine aw_iconst dX9_as_51 (by decide) (by decide) ?_
                refine aw_icmp_ne 59 dX9_as_52 rfl (fun c52 => ?_) (fun c52 => ?_)
                · refine aw_iconst dX9_as_59 (by decide) (by decide) ?_
                  refine aw_istore (ls' := [_, _, _, _, _]) dX9_as_60 (by decide) rfl ?_
                  refine aw_iload dX9_as_62 rfl ?_
                  refine aw_if_eq 75 dX9_as_64 rfl (fun c64 => ?_) (fun c64 => ?_)
                  · refine aw_aload_n dX9_as_75 rfl ?_
                    refine aw_iconst dX9_as_76 (by decide) (by decide) ?_
                    refine aw_v1i dX9_as_77 vl_RX9_71 (by first | rfl | assumption) (Nat.le_of_ble_eq_true rfl) (Nat.le_of_ble_eq_true rfl) (Nat.le_of_ble_eq_true rfl) (Nat.le_refl _) (Nat.le_refl _) (c_X9_found (by decide) (by decide)) ?_
                    refine aw_ireturn dX9_as_80 rfl (Nat.le_refl _) (Nat.le_refl _) ?_
                    first | (exfalso; omega) | (rw [if_pos (by omega)]; exact ⟨rfl, rfl, hM.fnd, fun c hc => am_up_ne (by omega)⟩) | (rw [if_neg (by omega)]; exact ⟨rfl, rfl, hM.fnd, fun c hc => am_up_ne (by omega)⟩)
                  · refine aw_aload_n dX9_as_67 rfl ?_
                    refine aw_iload_n dX9_as_68 rfl ?_
                    refine aw_v1i dX9_as_69 vl_RX9_75 (by first | rfl | assumption) (Nat.le_of_ble_eq_true rfl) (Nat.le_of_ble_eq_true rfl) (Nat.le_of_ble_eq_true rfl) (Nat.le_refl _) (Nat.le_refl _) (c_X9_well) ?_
                    refine aw_goto 80 dX9_as_72 rfl ?_
                    refine aw_ireturn dX9_as_80 rfl (Nat.le_refl _) (Nat.le_refl _) ?_
                    first | (exfalso; omega) | (rw [if_pos (by omega)]; exact ⟨rfl, rfl, hM.fnd, fun c hc => am_up_ne (by omega)⟩) | (rw [if_neg (by omega)]; exact ⟨rfl, rfl, hM.fnd, fun c hc => am_up_ne (by omega)⟩)
                · refine aw_iconst dX9_as_55 (by decide) (by decide) ?_
                  refine aw_goto 60 dX9_as_56 rfl ?_
                  refine aw_istore (ls' := [_, _, _, _, _]) dX9_as_60 (by decide) rfl ?_
                  refine aw_iload dX9_as_62 rfl ?_
                  refine aw_if_eq 75 dX9_as_64 rfl (fun c64 => ?_) (fun c64 => ?_)
                  · refine aw_aload_n dX9_as_75 rfl ?_
                    refine aw_iconst dX9_as_76 (by decide) (by decide) ?_
                    refine aw_v1i dX9_as_77 vl_RX9_71 (by first | rfl | assumption) (Nat.le_of_ble_eq_true rfl) (Nat.le_of_ble_eq_true rfl) (Nat.le_of_ble_eq_true rfl) (Nat.le_refl _) (Nat.le_refl _) (c_X9_found (by decide) (by decide)) ?_
                    refine aw_ireturn dX9_as_80 rfl (Nat.le_refl _) (Nat.le_refl _) ?_
                    first | (exfalso; omega) | (rw [if_pos (by omega)]; exact ⟨rfl, rfl, hM.fnd, fun c hc => am_up_ne (by omega)⟩) | (rw [if_neg (by omega)]; exact ⟨rfl, rfl, hM.fnd, fun c hc => am_up_ne (by omega)⟩)
                  · refine aw_aload_n dX9_as_67 rfl ?_
                    refine aw_iload_n dX9_as_68 rfl ?_
                    refine aw_v1i dX9_as_69 vl_RX9_75 (by first | rfl | assumption) (Nat.le_of_ble_eq_true rfl) (Nat.le_of_ble_eq_true rfl) (Nat.le_of_ble_eq_true rfl) (Nat.le_refl _) (Nat.le_refl _) (c_X9_well) ?_
                    refine aw_goto 80 dX9_as_72 rfl ?_
                    refine aw_ireturn dX9_as_80 rfl (Nat.le_refl _) (Nat.le_refl _) ?_
                    first | (exfalso; omega) | (rw [if_pos (by omega)]; exact ⟨rfl, rfl, hM.fnd, fun c hc => am_up_ne (by omega)⟩) | (rw [if_neg (by omega)]; exact ⟨rfl, rfl, hM.fnd, fun c hc => am_up_ne (by omega)⟩)
    · refine aw_ldc (n := -1000001) dX9_as_17 kc_RX9_70 (by decide) ?_
      refine aw_ireturn dX9_as_19 rfl (Nat.le_refl _) (Nat.le_refl _) ?_
      rw [if_pos (by omega)]
      exact ⟨rfl, rfl, hM, fun _ _ => rfl⟩
theorem c_X9_trace {i : Int} (hM : MS h σ) (hW : WFst σ) : Sem M_X9_trace [vR 373, vI i] (TT e q n L) h 0 0 (PM (sp_trace σ i) h (TT e q n L)) := by
  unfold sp_trace
  have m8 := hM.2.2.2.2.2.2.2
  have m1 := m8.1
  have w := hW.2.2.2.2.2.2
  refine sem_intro (by decide) rfl (Nat.le_of_ble_eq_true rfl) rfl ?_
  refine aw_iload_n dX9_trace_0 rfl ?_
  refine aw_iconst dX9_trace_1 (by decide) (by decide) ?_
  refine aw_aload_n dX9_trace_2 rfl ?_
  refine aw_getI dX9_trace_3 fx_RX9_251 (by first | rfl | assumption) ?_
  rw [m1]
  refine aw_iconst dX9_trace_6 (by decide) (by decide) ?_
  refine aw_isub dX9_trace_7 (by omega) (by omega) ?_
  refine aw_s3i dX9_trace_8 sl_RX9_62 (Nat.le_of_ble_eq_true rfl) (Nat.le_of_ble_eq_true rfl) (Nat.le_of_ble_eq_true rfl) (Nat.le_refl _) (Nat.le_refl _) (c_X9_in) ?_
  refine aw_ifB_eq 23 dX9_trace_11 rfl (fun c11 => ?_) (fun c11 => ?_)
  · refine aw_ldc (n := -1000000) dX9_trace_23 kc_RX9_56 (by decide) ?_
    refine aw_ireturn dX9_trace_25 rfl (Nat.le_refl _) (Nat.le_refl _) ?_
    first | (rw [if_pos (by omega)]; exact ⟨am_ri (m8.2 i (by omega) (by omega)), rfl, hM, fun _ _ => rfl⟩) | (rw [if_neg (by omega)]; exact ⟨rfl, rfl, hM, fun _ _ => rfl⟩)
  · refine aw_aload_n dX9_trace_14 rfl ?_
    refine aw_getR1 dX9_trace_15 fx_RX9_53 (by first | rfl | assumption) (by first | rfl | assumption) ?_
    refine aw_iload_n dX9_trace_18 rfl ?_
    refine aw_iaload dX9_trace_19 (by first | rfl | assumption) (by omega) (by omega) ?_
    refine aw_goto 25 dX9_trace_20 rfl ?_
    refine aw_ireturn dX9_trace_25 rfl (Nat.le_refl _) (Nat.le_refl _) ?_
    first | (rw [if_pos (by omega)]; exact ⟨am_ri (m8.2 i (by omega) (by omega)), rfl, hM, fun _ _ => rfl⟩) | (rw [if_neg (by omega)]; exact ⟨rfl, rfl, hM, fun _ _ => rfl⟩)
theorem l_cntM {Q : Option AV → Tp → Mem → Prop} {w : Int} {l : Int → Int} (hl : ∀ k : Nat, k < 8 → h 374 k = (if l k = -1 then -1000000 else l k) ∧ -1 ≤ l k ∧ l k ≤ 2) (hk : Q (some (vI (cntR l 8))) (TT e q n L) h) :
    ∀ (m k : Nat), k + m = 8 → 0 ≤ cntR l k → cntR l k ≤ k → AW M_X9_count 0 0 Q 54 [some (vR 373), some (vI w), some (vI (cntR l k)), some (vI k)] [] (TT e q n L) h 0 0 := by
  intro m
  induction m with
  | zero =>
    intro k hi b0 b1
    have e1 : k = 8 := by omega
    subst e1
    refine aw_iload_n dX9_count_54 rfl ?_
    refine aw_bipush dX9_count_55 (by decide) (by decide) ?_
    refine aw_icmp_ge 82 dX9_count_57 rfl (fun c57 => ?_) (fun c57 => ?_)
    · refine aw_iload_n dX9_count_82 rfl ?_
      refine aw_ireturn dX9_count_83 rfl (Nat.le_refl _) (Nat.le_refl _) ?_
      exact hk
    · exfalso; omega
  | succ m ih =>
    intro k hi b0 b1
    have z := ih (k + 1) (by omega)
    obtain ⟨hl1, hl2, hl3⟩ := hl k (by omega)
    have es : cntR l (k + 1) = if l k = -1 then cntR l k else cntR l k + 1 := rfl
    rw [es] at z
    refine aw_iload_n dX9_count_54 rfl ?_
    refine aw_bipush dX9_count_55 (by decide) (by decide) ?_
    refine aw_icmp_ge 82 dX9_count_57 rfl (fun c57 => ?_) (fun c57 => ?_)
    · exfalso; omega
    · refine aw_iload_n dX9_count_60 rfl ?_
      refine aw_aload_n dX9_count_61 rfl ?_
      refine aw_iload_n dX9_count_62 rfl ?_
      refine aw_v1i dX9_count_63 vl_RX9_78 (by first | rfl | assumption) (Nat.le_of_ble_eq_true rfl) (Nat.le_of_ble_eq_true rfl) (Nat.le_of_ble_eq_true rfl) (Nat.le_refl _) (Nat.le_refl _) (c_X9_isMissing (by omega) (by omega)) ?_
      refine aw_ifB_eq 73 dX9_count_66 rfl (fun c66 => ?_) (fun c66 => ?_)
      · refine aw_iconst dX9_count_73 (by decide) (by decide) ?_
        refine aw_iadd dX9_count_74 (by omega) (by omega) ?_
        refine aw_istore_n (ls' := [_, _, _, _]) dX9_count_75 (by decide) rfl ?_
        refine aw_iinc (ls' := [_, _, _, _]) dX9_count_76 (by decide) rfl (by omega) (by omega) rfl ?_
        refine aw_goto 54 dX9_count_79 rfl ?_
        have ey : l k = -1 ∨ l k ≠ -1 := by omega
        rcases ey with y | y
        · rw [if_pos y] at z hl1
          first | (exfalso; omega) | (rw [show cntR l k + 0 = cntR l k by omega]; exact z b0 (by omega))
        · rw [if_neg y] at z hl1
          first | (exfalso; omega) | exact z (by omega) (by omega)
      · refine aw_iconst dX9_count_69 (by decide) (by decide) ?_
        refine aw_goto 74 dX9_count_70 rfl ?_
        refine aw_iadd dX9_count_74 (by omega) (by omega) ?_
        refine aw_istore_n (ls' := [_, _, _, _]) dX9_count_75 (by decide) rfl ?_
        refine aw_iinc (ls' := [_, _, _, _]) dX9_count_76 (by decide) rfl (by omega) (by omega) rfl ?_
        refine aw_goto 54 dX9_count_79 rfl ?_
        have ey : l k = -1 ∨ l k ≠ -1 := by omega
        rcases ey with y | y
        · rw [if_pos y] at z hl1
          first | (exfalso; omega) | (rw [show cntR l k + 0 = cntR l k by omega]; exact z b0 (by omega))
        · rw [if_neg y] at z hl1
          first | (exfalso; omega) | exact z (by omega) (by omega)
theorem c_X9_count {w : Int} (hM : MS h σ) (hW : WFst σ) : Sem M_X9_count [vR 373, vI w] (TT e q n L) h 0 0 (PM (sp_count σ w) h (TT e q n L)) := by
  unfold sp_count
  have ev : mV h 379 0 = s_liv σ := hM.2.2.2.2.1
  have ec : h 379 3 = s_liv σ 0 0 := mA_c ev
  have ws := wf_sh hW.2.2.2.1
  have m3 := hM.2.2.1.1
  have m6 := hM.2.2.2.2.2.1.1
  have fin : ∀ (x y : Int), x = y → PM (y, σ) h (TT e q n L) (some (vI x)) (TT e q n L) h := fun x y z => ⟨am_ri z, rfl, hM, fun _ _ => rfl⟩
  refine sem_intro (by decide) rfl (Nat.le_of_ble_eq_true rfl) rfl ?_
  refine aw_iconst dX9_count_0 (by decide) (by decide) ?_
  refine aw_istore_n (ls' := [_, _, _, _]) dX9_count_1 (by decide) rfl ?_
  refine aw_iload_n dX9_count_2 rfl ?_
  refine aw_table 137 dX9_count_3 rfl (fun c3 => ?_) (fun g3a g3b => ?_)
  · refine aw_ldc (n := -1000001) dX9_count_137 kc_RX9_70 (by decide) ?_
    refine aw_ireturn dX9_count_139 rfl (Nat.le_refl _) (Nat.le_refl _) ?_
    rw [if_neg (by omega), if_neg (by omega), if_neg (by omega), if_neg (by omega), if_neg (by omega), if_neg (by omega), if_neg (by omega), if_neg (by omega), if_neg (by omega)]
    exact fin _ _ rfl
  · rcases tcs_0_8 g3a g3b with c3 | c3 | c3 | c3 | c3 | c3 | c3 | c3 | c3
    · refine aw_tableIn 52 dX9_count_3 g3a g3b (by rw [c3]; rfl) rfl ?_
      refine aw_iconst dX9_count_52 (by decide) (by decide) ?_
      refine aw_istore_n (ls' := [_, _, _, _]) dX9_count_53 (by decide) rfl ?_
      rw [if_pos c3]
      exact l_cntM (w := w) (l := s_lan σ) (fun k hk => ⟨(hM.1 k (by omega) (by omega)).1, (hW.1 k (by omega) (by omega)).1, (hW.1 k (by omega) (by omega)).2.1⟩) ⟨rfl, rfl, hM, fun _ _ => rfl⟩ 8 0 (by omega) (Int.le_refl 0) (Int.le_refl 0)
    · refine aw_tableIn 84 dX9_count_3 g3a g3b (by rw [c3]; rfl) rfl ?_
      refine aw_aload_n dX9_count_84 rfl ?_
      refine aw_getR1 dX9_count_85 fx_RX9_25 (by first | rfl | assumption) (by first | rfl | assumption) ?_
      refine aw_iconst dX9_count_88 (by decide) (by decide) ?_
      refine aw_iaload dX9_count_89 (by first | rfl | assumption) (by omega) (by omega) ?_
      refine aw_ireturn dX9_count_90 rfl (Nat.le_refl _) (Nat.le_refl _) ?_
      rw [if_neg (by omega), if_pos c3]
      exact fin _ _ ec
    · refine aw_tableIn 91 dX9_count_3 g3a g3b (by rw [c3]; rfl) rfl ?_
      refine aw_aload_n dX9_count_91 rfl ?_
      refine aw_getR1 dX9_count_92 fx_RX9_25 (by first | rfl | assumption) (by first | rfl | assumption) ?_
      refine aw_iconst dX9_count_95 (by decide) (by decide) ?_
      refine aw_iaload dX9_count_96 (by first | rfl | assumption) (by omega) (by omega) ?_
      refine aw_ireturn dX9_count_97 rfl (Nat.le_refl _) (Nat.le_refl _) ?_
      rw [if_neg (by omega), if_neg (by omega), if_pos c3]
      exact fin _ _ (mA_w ev)
    · refine aw_tableIn 98 dX9_count_3 g3a g3b (by rw [c3]; rfl) rfl ?_
      refine aw_aload_n dX9_count_98 rfl ?_
      refine aw_getR1 dX9_count_99 fx_RX9_25 (by first | rfl | assumption) (by first | rfl | assumption) ?_
      refine aw_iconst dX9_count_102 (by decide) (by decide) ?_
      refine aw_iaload dX9_count_103 (by first | rfl | assumption) (by omega) (by omega) ?_
      refine aw_ireturn dX9_count_104 rfl (Nat.le_refl _) (Nat.le_refl _) ?_
      rw [if_neg (by omega), if_neg (by omega), if_neg (by omega), if_pos c3]
      exact fin _ _ (mA_l ev)
    · refine aw_tableIn 105 dX9_count_3 g3a g3b (by rw [c3]; rfl) rfl ?_
      refine aw_aload_n dX9_count_105 rfl ?_
      refine aw_getR1 dX9_count_106 fx_RX9_25 (by first | rfl | assumption) (by first | rfl | assumption) ?_
      refine aw_iconst dX9_count_109 (by decide) (by decide) ?_
      refine aw_iaload dX9_count_110 (by first | rfl | assumption) (by omega) (by omega) ?_
      refine aw_ireturn dX9_count_111 rfl (Nat.le_refl _) (Nat.le_refl _) ?_
      rw [if_neg (by omega), if_neg (by omega), if_neg (by omega), if_neg (by omega), if_pos c3]
      exact fin _ _ (mA_f ev)
    · refine aw_tableIn 112 dX9_count_3 g3a g3b (by rw [c3]; rfl) rfl ?_
      refine aw_aload_n dX9_count_112 rfl ?_
      refine aw_getR1 dX9_count_113 fx_RX9_25 (by first | rfl | assumption) (by first | rfl | assumption) ?_
      refine aw_s1i dX9_count_116 sl_RX9_209 (Nat.le_of_ble_eq_true rfl) (Nat.le_of_ble_eq_true rfl) (Nat.le_of_ble_eq_true rfl) (Nat.le_refl _) (Nat.le_refl _) (c_X9_frozenOnes (a := 379) rfl ev (by omega) (by omega)) ?_
      refine aw_ireturn dX9_count_119 rfl (Nat.le_refl _) (Nat.le_refl _) ?_
      rw [if_neg (by omega), if_neg (by omega), if_neg (by omega), if_neg (by omega), if_neg (by omega), if_pos c3]
      exact fin _ _ rfl
    · refine aw_tableIn 120 dX9_count_3 g3a g3b (by rw [c3]; rfl) rfl ?_
      refine aw_aload_n dX9_count_120 rfl ?_
      refine aw_getR1 dX9_count_121 fx_RX9_25 (by first | rfl | assumption) (by first | rfl | assumption) ?_
      refine aw_iconst dX9_count_124 (by decide) (by decide) ?_
      refine aw_iaload dX9_count_125 (by first | rfl | assumption) (by omega) (by omega) ?_
      refine aw_ireturn dX9_count_126 rfl (Nat.le_refl _) (Nat.le_refl _) ?_
      rw [if_neg (by omega), if_neg (by omega), if_neg (by omega), if_neg (by omega), if_neg (by omega), if_neg (by omega), if_pos c3]
      exact fin _ _ (mA_r ev)
    · refine aw_tableIn 127 dX9_count_3 g3a g3b (by rw [c3]; rfl) rfl ?_
      refine aw_aload_n dX9_count_127 rfl ?_
      refine aw_getI dX9_count_128 fx_RX9_149 (by first | rfl | assumption) ?_
      refine aw_ireturn dX9_count_131 rfl (Nat.le_refl _) (Nat.le_refl _) ?_
      rw [if_neg (by omega), if_neg (by omega), if_neg (by omega), if_neg (by omega), if_neg (by omega), if_neg (by omega), if_neg (by omega), if_pos c3]
      exact fin _ _ m6
    · refine aw_tableIn 132 dX9_count_3 g3a g3b (by rw [c3]; rfl) rfl ?_
      refine aw_aload_n dX9_count_132 rfl ?_
      refine aw_getI dX9_count_133 fx_RX9_88 (by first | rfl | assumption) ?_
      refine aw_ireturn dX9_count_136 rfl (Nat.le_refl _) (Nat.le_refl _) ?_
      rw [if_neg (by omega), if_neg (by omega), if_neg (by omega), if_neg (by omega), if_neg (by omega), if_neg (by omega), if_neg (by omega), if_neg (by omega), if_pos c3]
      exact fin _ _ m3
theorem c_X9_image {k : Int} (hM : MS h σ) (hW : WFst σ) : Sem M_X9_image [vR 373, vI k] (TT e q n L) h 0 0 (PM (sp_image σ k) h (TT e q n L)) := by
  unfold sp_image
  obtain ⟨m1, m2, m3, m4, m5, m6, m7, m8⟩ := id hM
  have ev : mV h 379 0 = s_liv σ := hM.2.2.2.2.1
  have e0 : h 379 0 = s_liv σ 0 1 := mA_w ev
  have ec : h 379 3 = s_liv σ 0 0 := mA_c ev
  have ws := wf_sh hW.2.2.2.1
  refine sem_intro (by decide) rfl (Nat.le_of_ble_eq_true rfl) rfl ?_
  refine aw_iload_n dX9_image_0 rfl ?_
  refine aw_iconst dX9_image_1 (by decide) (by decide) ?_
  refine aw_iconst dX9_image_2 (by decide) (by decide) ?_
  refine aw_s3i dX9_image_3 sl_RX9_62 (Nat.le_of_ble_eq_true rfl) (Nat.le_of_ble_eq_true rfl) (Nat.le_of_ble_eq_true rfl) (Nat.le_refl _) (Nat.le_refl _) (c_X9_in) ?_
  refine aw_ifB_ne 12 dX9_image_6 rfl (fun c6 => ?_) (fun c6 => ?_)
  · refine aw_aload_n dX9_image_12 rfl ?_
    refine aw_v0i dX9_image_13 vl_RX9_191 (by first | rfl | assumption) (Nat.le_of_ble_eq_true rfl) (Nat.le_of_ble_eq_true rfl) (Nat.le_of_ble_eq_true rfl) (Nat.le_refl _) (Nat.le_refl _) (c_X9_isSheet) ?_
    refine aw_ifB_ne 22 dX9_image_16 rfl (fun c16 => ?_) (fun c16 => ?_)
    · refine aw_aload_n dX9_image_22 rfl ?_
      refine aw_getR1 dX9_image_23 fx_RX9_25 (by first | rfl | assumption) (by first | rfl | assumption) ?_
      refine aw_iconst dX9_image_26 (by decide) (by decide) ?_
      refine aw_aload_n dX9_image_27 rfl ?_
      refine aw_getR1 dX9_image_28 fx_RX9_37 (by first | rfl | assumption) (by first | rfl | assumption) ?_
      refine aw_bipush dX9_image_31 (by decide) (by decide) ?_
      refine aw_iload_n dX9_image_33 rfl ?_
      refine aw_imul dX9_image_34 (by omega) (by omega) ?_
      refine aw_s4q dX9_image_35 sl_RX9_145 (Nat.le_of_ble_eq_true rfl) (Nat.le_of_ble_eq_true rfl) (Nat.le_of_ble_eq_true rfl) (Nat.le_refl _) (Nat.le_refl _) (c_X9_copies (Nx := 53) (Ny := 106) rfl rfl (by decide) (by omega) (by omega) (by omega) (by omega) (by decide) (by decide) (by decide)) ?_
      intro v t' h1 hq
      obtain ⟨rfl, rfl, k1, k2, k3⟩ := hq
      refine aw_aload_n dX9_image_38 rfl ?_
      refine aw_getR1 dX9_image_39 fx_RX9_40 (by first | rfl | assumption) (by first | rfl | assumption) ?_
      refine aw_iload_n dX9_image_42 rfl ?_
      refine aw_iconst dX9_image_43 (by decide) (by decide) ?_
      refine aw_zastore dX9_image_44 (by first | rfl | assumption) (by omega) (by omega) (by omega) (by omega) ?_
      refine aw_iconst dX9_image_45 (by decide) (by decide) ?_
      refine aw_ireturn dX9_image_46 rfl (Nat.le_refl _) (Nat.le_refl _) ?_
      rw [if_neg (by omega), if_neg (by omega)]
      have ee : ∀ c, c ≠ 383 → c ≠ 384 → am_up h1 384 k 1 c = h c := fun c c1 c2 => by rw [am_up_ne c2, k3 c c1]
      refine ⟨rfl, rfl, ⟨fun i i0 i1 => ?_, ?_, ?_, ?_, ?_, ?_, fun k2' q0 q1 => ?_, ?_⟩, fun c hc => ee c (by omega) (by omega)⟩
      · rw [ee 374 (by decide) (by decide), ee 375 (by decide) (by decide), ee 376 (by decide) (by decide)]; exact m1 i i0 i1
      · rw [ee 373 (by decide) (by decide)]; exact m2
      · rw [ee 373 (by decide) (by decide), ee 378 (by decide) (by decide)]; exact m3
      · rw [ee 373 (by decide) (by decide)]; exact m4
      · rw [mV_fr (ee 379 (by decide) (by decide))]; exact m5
      · rw [ee 373 (by decide) (by decide)]
        refine ⟨m6.1, m6.2.1, fun j hj => ?_⟩
        rw [mV_fr (ee 382 (by decide) (by decide))]; exact m6.2.2 j hj
      · show am_up h1 384 k 1 384 k2' = (if (if k2' = k then s_liv σ else s_img σ k2') 0 0 = 0 then 0 else 1) ∧ mV _ 383 (53 * k2') = (if k2' = k then s_liv σ else s_img σ k2')
        rw [mV_fr (am_up_ne (by decide))]
        by_cases y : k2' = k
        · subst y
          rw [if_pos rfl, if_neg (by omega)]
          refine ⟨by unfold am_up; rw [if_pos ⟨rfl, rfl⟩], ?_⟩
          rw [← ev]
          exact mV_congr (fun x x0 x1 => k1 x x0 x1) (by rw [show (0 : Int) + 3 = 3 from rfl, ec]; omega)
        · rw [if_neg y]
          have m := m7 k2' q0 q1
          refine ⟨?_, ?_⟩
          · rw [← m.1, ← k3 384 (by decide)]; unfold am_up; rw [if_neg (by omega)]
          · rw [← m.2]
            refine mV_congr (fun x x0 x1 => k2 _ (by omega)) ?_
            rw [show h 383 (53 * k2' + 3) = s_img σ k2' 0 0 by rw [← m.2]; exact mVc.symm]
            exact (wf_cnt (hW.2.2.2.2.2.1 k2' q0 q1)).2
      · rw [ee 373 (by decide) (by decide), ee 388 (by decide) (by decide)]; exact m8
    · refine aw_ldc (n := -1000002) dX9_image_19 kc_RX9_194 (by decide) ?_
      refine aw_ireturn dX9_image_21 rfl (Nat.le_refl _) (Nat.le_refl _) ?_
      rw [if_neg (by omega), if_pos (by omega)]
      exact ⟨rfl, rfl, hM, fun _ _ => rfl⟩
  · refine aw_ldc (n := -1000001) dX9_image_9 kc_RX9_70 (by decide) ?_
    refine aw_ireturn dX9_image_11 rfl (Nat.le_refl _) (Nat.le_refl _) ?_
    rw [if_pos (by omega)]
    exact ⟨rfl, rfl, hM, fun _ _ => rfl⟩
theorem c_X9_restore {k : Int} (hM : MS h σ) (hW : WFst σ) : Sem M_X9_restore [vR 373, vI k] (TT e q n L) h 0 0 (PM (sp_restore σ k) h (TT e q n L)) := by
  unfold sp_restore
  have m7 := hM.2.2.2.2.2.2.1 k
  refine sem_intro (by decide) rfl (Nat.le_of_ble_eq_true rfl) rfl ?_
  refine aw_iload_n dX9_restore_0 rfl ?_
  refine aw_iconst dX9_restore_1 (by decide) (by decide) ?_
  refine aw_iconst dX9_restore_2 (by decide) (by decide) ?_
  refine aw_s3i dX9_restore_3 sl_RX9_62 (Nat.le_of_ble_eq_true rfl) (Nat.le_of_ble_eq_true rfl) (Nat.le_of_ble_eq_true rfl) (Nat.le_refl _) (Nat.le_refl _) (c_X9_in) ?_
  refine aw_ifB_ne 12 dX9_restore_6 rfl (fun c6 => ?_) (fun c6 => ?_)
  · obtain ⟨a1, a2⟩ := m7 (by omega) (by omega)
    have wk := wf_cnt (hW.2.2.2.2.2.1 k (by omega) (by omega))
    refine aw_aload_n dX9_restore_12 rfl ?_
    refine aw_getR1 dX9_restore_13 fx_RX9_40 (by first | rfl | assumption) (by first | rfl | assumption) ?_
    refine aw_iload_n dX9_restore_16 rfl ?_
    refine aw_zaload dX9_restore_17 (by first | rfl | assumption) (by omega) (by omega) ?_
    rw [a1]
    refine aw_if_ne 24 dX9_restore_18 rfl (fun c18 => ?_) (fun c18 => ?_)
    · refine aw_aload_n dX9_restore_24 rfl ?_
      refine aw_getR1 dX9_restore_25 fx_RX9_37 (by first | rfl | assumption) (by first | rfl | assumption) ?_
      refine aw_bipush dX9_restore_28 (by decide) (by decide) ?_
      refine aw_iload_n dX9_restore_30 rfl ?_
      refine aw_imul dX9_restore_31 (by omega) (by omega) ?_
      refine aw_aload_n dX9_restore_32 rfl ?_
      refine aw_getR1 dX9_restore_33 fx_RX9_25 (by first | rfl | assumption) (by first | rfl | assumption) ?_
      refine aw_iconst dX9_restore_36 (by decide) (by decide) ?_
      refine aw_s4q dX9_restore_37 sl_RX9_145 (Nat.le_of_ble_eq_true rfl) (Nat.le_of_ble_eq_true rfl) (Nat.le_of_ble_eq_true rfl) (Nat.le_refl _) (Nat.le_refl _) (c_X9_copies (Nx := 106) (Ny := 53) rfl rfl (by decide) (by omega) (by omega) (by omega) (by omega) (by decide) (by decide) (by decide)) ?_
      intro v t' h1 hq
      obtain ⟨rfl, rfl, k1, k2, k3⟩ := hq
      have ev1 : mV h1 379 0 = s_img σ k := by
        rw [← a2]
        refine mV_congr (fun x x0 x1 => k1 x x0 x1) ?_
        rw [show h 383 (53 * k + 3) = s_img σ k 0 0 by rw [← a2]; exact mVc.symm]
        exact wk.2
      refine aw_aload_n dX9_restore_40 rfl ?_
      refine aw_iconst dX9_restore_41 (by decide) (by decide) ?_
      refine aw_putI dX9_restore_42 fp_RX9_149 (by first | rfl | assumption) ?_
      refine aw_iconst dX9_restore_45 (by decide) (by decide) ?_
      refine aw_ireturn dX9_restore_46 rfl (Nat.le_refl _) (Nat.le_refl _) ?_
      rw [if_neg (by omega), if_neg (by intro y; rw [if_pos y] at c18; omega)]
      exact ⟨rfl, rfl, hM.act (by show 0 ≤ 24; omega) (by rw [mV_fr (am_up_ne (by decide))]; exact ev1) ⟨by simp [am_up], fun j hj => absurd hj (Nat.not_lt_zero j)⟩ (fun c hc => by rw [am_up_ne (by omega), k3 c (by omega)]) (fun x hx => by unfold am_up; rw [if_neg (by omega), k3 373 (by decide)]), fun c hc => by rw [am_up_ne (by omega), k3 c (by omega)]⟩
    · refine aw_ldc (n := -1000002) dX9_restore_21 kc_RX9_194 (by decide) ?_
      refine aw_ireturn dX9_restore_23 rfl (Nat.le_refl _) (Nat.le_refl _) ?_
      rw [if_neg (by omega), if_pos (by by_cases y : s_img σ k 0 0 = 0; exact y; rw [if_neg y] at c18; omega)]
      exact ⟨rfl, rfl, hM, fun _ _ => rfl⟩
  · refine aw_ldc (n := -1000001) dX9_restore_9 kc_RX9_70 (by decide) ?_
    refine aw_ireturn dX9_restore_11 rfl (Nat.le_refl _) (Nat.le_refl _) ?_
    rw [if_pos (by omega)]
    exact ⟨rfl, rfl, hM, fun _ _ => rfl⟩
end MOL
