/-! the reference's rows: set, copy -/
theorem low_sh {v : Int} : (Int32.ofInt (Int32.ofInt v <<< (Int32.ofInt 24 &&& 31)).toInt >>> (Int32.ofInt 24 &&& 31)).toInt = v.bmod 256 ∧ (Int32.ofInt (Int32.ofInt v <<< (Int32.ofInt 16 &&& 31)).toInt >>> (Int32.ofInt 16 &&& 31)).toInt = v.bmod 65536 := by
  have e : ((Int32.ofInt 24 &&& 31).toBitVec.smod 32).toNat = 24 := by decide
  have e2 : ((Int32.ofInt 16 &&& 31).toBitVec.smod 32).toNat = 16 := by decide
  have en : ((Int32.ofInt v).toBitVec.toNat : Int) = v % 4294967296 := by
    show ((BitVec.ofInt 32 v).toNat : Int) = _
    rw [BitVec.toNat_ofInt]
    have : (0 : Int) ≤ v % ((2 ^ 32 : Nat) : Int) := Int.emod_nonneg _ (by decide)
    rw [Int.toNat_of_nonneg this]
    rfl
  have p1 : ((2 ^ 24 : Nat) : Int) = 16777216 := by decide
  have p3 : (2 ^ 32 : Nat) = 4294967296 := by decide
  have p2 : ((2 ^ 16 : Nat) : Int) = 65536 := by decide
  constructor
  · rw [Int32.ofInt_toInt, ← Int32.toInt_toBitVec, Int32.toBitVec_shiftRight, BitVec.sshiftRight', e, BitVec.toInt_sshiftRight, Int32.toBitVec_shiftLeft, BitVec.shiftLeft_eq', e, BitVec.toInt_shiftLeft, Int.shiftRight_eq_div_pow, Nat.shiftLeft_eq, Int.natCast_mul, en]
    rw [p1, p3]
    rw [Int.bmod_def, Int.bmod_def]
    split <;> split <;> omega
  · rw [Int32.ofInt_toInt, ← Int32.toInt_toBitVec, Int32.toBitVec_shiftRight, BitVec.sshiftRight', e2, BitVec.toInt_sshiftRight, Int32.toBitVec_shiftLeft, BitVec.shiftLeft_eq', e2, BitVec.toInt_shiftLeft, Int.shiftRight_eq_div_pow, Nat.shiftLeft_eq, Int.natCast_mul, en]
    rw [p2, p3]
    rw [Int.bmod_def, Int.bmod_def]
    split <;> split <;> omega
theorem mV_fr {h h' : Mem} {c : Nat} {o : Int} (e : h' c = h c) : mV h' c o = mV h c o := by unfold mV mS; rw [e]
theorem pm_sm {h h' : Mem} {σ : ST} {t : Tp} {x : Int} (hM : MS h σ) (f : SM h h') : PM (x, σ) h t (some (vI x)) t h' := ⟨rfl, rfl, f.ms hM, fun c hc => f.1 c (by omega)⟩
theorem sm_FM {a : Nat} {h h' : Mem} (ha : a = 380 ∨ a = 381) (f : FM a h h') : SM h h' := ⟨fun c hc => f.1 c (by unfold MK at hc; omega) (by unfold MK at hc; omega) (by unfold MK at hc; omega) (by unfold MK at hc; omega), fun k hk => f.2 k (by omega)⟩
theorem sm_of {h h' : Mem} (f : ∀ c, c ≠ 377 → c ≠ 380 → c ≠ 381 → c ≠ 385 → c ≠ 386 → c ≠ 387 → h' c = h c) : SM h h' := ⟨fun c hc => f c (by unfold MK at hc; omega) (by unfold MK at hc; omega) (by unfold MK at hc; omega) (by unfold MK at hc; omega) (by unfold MK at hc; omega) (by unfold MK at hc; omega), fun k _ => by rw [f 373 (by decide) (by decide) (by decide) (by decide) (by decide) (by decide)]⟩
section MOJ
variable {e q n L : Nat} {h : Mem} {σ : ST}
theorem c_X9_lowest {t : Tp} {l v : Int} : SemE M_X9_lowest [vI l, vI v] t h (some (vI (low l v))) t h := by
  unfold low
  refine sem_intro (by decide) rfl (Nat.le_of_ble_eq_true rfl) rfl ?_
  refine aw_iload_n dX9_lowest_0 rfl ?_
  refine aw_if_ne 14 dX9_lowest_1 rfl (fun c1 => ?_) (fun c1 => ?_)
  · refine aw_iload_n dX9_lowest_14 rfl ?_
    refine aw_iconst dX9_lowest_15 (by decide) (by decide) ?_
    refine aw_icmp_ne 29 dX9_lowest_16 rfl (fun c16 => ?_) (fun c16 => ?_)
    · refine aw_iload_n dX9_lowest_29 rfl ?_
      refine aw_ireturn dX9_lowest_30 rfl (Nat.le_refl _) (Nat.le_refl _) ?_
      first | (rw [if_pos (by omega)]; exact ⟨am_ri low_sh.1, rfl, rfl⟩) | (rw [if_neg (by omega), if_pos (by omega)]; exact ⟨am_ri low_sh.2, rfl, rfl⟩) | (rw [if_neg (by omega), if_neg (by omega)]; exact ⟨rfl, rfl, rfl⟩)
    · refine aw_iload_n dX9_lowest_19 rfl ?_
      refine aw_bipush dX9_lowest_20 (by decide) (by decide) ?_
      refine aw_ishlw dX9_lowest_22 ?_
      refine aw_bipush dX9_lowest_23 (by decide) (by decide) ?_
      refine aw_ishrw dX9_lowest_25 ?_
      refine aw_goto 30 dX9_lowest_26 rfl ?_
      refine aw_ireturn dX9_lowest_30 rfl (Nat.le_refl _) (Nat.le_refl _) ?_
      first | (rw [if_pos (by omega)]; exact ⟨am_ri low_sh.1, rfl, rfl⟩) | (rw [if_neg (by omega), if_pos (by omega)]; exact ⟨am_ri low_sh.2, rfl, rfl⟩) | (rw [if_neg (by omega), if_neg (by omega)]; exact ⟨rfl, rfl, rfl⟩)
  · refine aw_iload_n dX9_lowest_4 rfl ?_
    refine aw_bipush dX9_lowest_5 (by decide) (by decide) ?_
    refine aw_ishlw dX9_lowest_7 ?_
    refine aw_bipush dX9_lowest_8 (by decide) (by decide) ?_
    refine aw_ishrw dX9_lowest_10 ?_
    refine aw_goto 30 dX9_lowest_11 rfl ?_
    refine aw_ireturn dX9_lowest_30 rfl (Nat.le_refl _) (Nat.le_refl _) ?_
    first | (rw [if_pos (by omega)]; exact ⟨am_ri low_sh.1, rfl, rfl⟩) | (rw [if_neg (by omega), if_pos (by omega)]; exact ⟨am_ri low_sh.2, rfl, rfl⟩) | (rw [if_neg (by omega), if_neg (by omega)]; exact ⟨rfl, rfl, rfl⟩)
theorem c_X9_set {r i v : Int} (hM : MS h σ) (hW : WFst σ) : Sem M_X9_set [vR 373, vI r, vI i, vI v] (TT e q n L) h 0 0 (PM (sp_set σ r i v) h (TT e q n L)) := by
  unfold sp_set
  have w := hW.1 r
  have m := hM.1 r
  refine sem_intro (by decide) rfl (Nat.le_of_ble_eq_true rfl) rfl ?_
  refine aw_iload_n dX9_set_0 rfl ?_
  refine aw_s1i dX9_set_1 sl_RX9_66 (Nat.le_of_ble_eq_true rfl) (Nat.le_of_ble_eq_true rfl) (Nat.le_of_ble_eq_true rfl) (Nat.le_refl _) (Nat.le_refl _) (c_X9_isRow) ?_
  refine aw_ifB_ne 10 dX9_set_4 rfl (fun c4 => ?_) (fun c4 => ?_)
  · have w2 := w (by omega) (by omega)
    obtain ⟨m1, m2, m3⟩ := m (by omega) (by omega)
    rw [if_neg (by omega)]
    refine aw_aload_n dX9_set_10 rfl ?_
    refine aw_iload_n dX9_set_11 rfl ?_
    refine aw_v1i dX9_set_12 vl_RX9_78 (by first | rfl | assumption) (Nat.le_of_ble_eq_true rfl) (Nat.le_of_ble_eq_true rfl) (Nat.le_of_ble_eq_true rfl) (Nat.le_refl _) (Nat.le_refl _) (c_X9_isMissing (by omega) (by omega)) ?_
    refine aw_ifB_eq 24 dX9_set_15 rfl (fun c15 => ?_) (fun c15 => ?_)
    · have e1 : s_lan σ r ≠ -1 := fun y => by
        rw [if_pos y] at m1; omega
      rw [if_neg e1] at m1 ⊢
      refine aw_iload_n dX9_set_24 rfl ?_
      refine aw_iconst dX9_set_25 (by decide) (by decide) ?_
      refine aw_aload_n dX9_set_26 rfl ?_
      refine aw_getR1 dX9_set_27 fx_RX9_13 (by first | rfl | assumption) (by first | rfl | assumption) ?_
      refine aw_iload_n dX9_set_30 rfl ?_
      refine aw_iaload dX9_set_31 (by first | rfl | assumption) (by omega) (by omega) ?_
      rw [m2]
      refine aw_iconst dX9_set_32 (by decide) (by decide) ?_
      refine aw_isub dX9_set_33 (by omega) (by omega) ?_
      refine aw_s3i dX9_set_34 sl_RX9_62 (Nat.le_of_ble_eq_true rfl) (Nat.le_of_ble_eq_true rfl) (Nat.le_of_ble_eq_true rfl) (Nat.le_refl _) (Nat.le_refl _) (c_X9_in) ?_
      refine aw_ifB_ne 46 dX9_set_37 rfl (fun c37 => ?_) (fun c37 => ?_)
      · rw [if_neg (by omega)]
        refine aw_aload_n dX9_set_46 rfl ?_
        refine aw_getR1 dX9_set_47 fx_RX9_16 (by first | rfl | assumption) (by first | rfl | assumption) ?_
        refine aw_bipush dX9_set_50 (by decide) (by decide) ?_
        refine aw_iload_n dX9_set_52 rfl ?_
        refine aw_imul dX9_set_53 (by omega) (by omega) ?_
        refine aw_iload_n dX9_set_54 rfl ?_
        refine aw_iadd dX9_set_55 (by omega) (by omega) ?_
        refine aw_aload_n dX9_set_56 rfl ?_
        refine aw_getR1 dX9_set_57 fx_RX9_7 (by first | rfl | assumption) (by first | rfl | assumption) ?_
        refine aw_iload_n dX9_set_60 rfl ?_
        refine aw_iaload dX9_set_61 (by first | rfl | assumption) (by omega) (by omega) ?_
        rw [m1]
        refine aw_iload_n dX9_set_62 rfl ?_
        refine aw_s2i dX9_set_63 sl_RX9_81 (Nat.le_of_ble_eq_true rfl) (Nat.le_of_ble_eq_true rfl) (Nat.le_of_ble_eq_true rfl) (Nat.le_refl _) (Nat.le_refl _) (c_X9_lowest) ?_
        refine aw_iastore dX9_set_66 (by first | rfl | assumption) (by omega) (by omega) (by omega) ?_
        refine aw_aload_n dX9_set_67 rfl ?_
        refine aw_aload_n dX9_set_68 rfl ?_
        refine aw_getR1 dX9_set_69 fx_RX9_16 (by first | rfl | assumption) (by first | rfl | assumption) ?_
        refine aw_bipush dX9_set_72 (by decide) (by decide) ?_
        refine aw_iload_n dX9_set_74 rfl ?_
        refine aw_imul dX9_set_75 (by omega) (by omega) ?_
        refine aw_iload_n dX9_set_76 rfl ?_
        refine aw_iadd dX9_set_77 (by omega) (by omega) ?_
        refine aw_iaload dX9_set_78 (by first | rfl | assumption) (by omega) (by omega) ?_
        refine aw_v1i dX9_set_79 vl_RX9_75 (by first | rfl | assumption) (Nat.le_of_ble_eq_true rfl) (Nat.le_of_ble_eq_true rfl) (Nat.le_of_ble_eq_true rfl) (Nat.le_refl _) (Nat.le_refl _) (c_X9_well) ?_
        refine aw_ireturn dX9_set_82 rfl (Nat.le_refl _) (Nat.le_refl _) ?_
        refine ⟨am_ri (by simp [am_up]), rfl, hM.row (fun i2 i0 i1 => ?_) (by simp [am_up]) (fun c hc => by rw [am_up_ne (by omega), am_up_ne (by omega)]) (fun k hk => by unfold am_up; rw [if_neg (by omega), if_neg (by omega)]), fun c hc => by rw [am_up_ne (by omega), am_up_ne (by omega)]⟩
        obtain ⟨y1, y2, y3⟩ := hM.1 i2 i0 i1
        refine ⟨by rw [am_up_ne (by decide), am_up_ne (by decide)]; exact y1, by rw [am_up_ne (by decide), am_up_ne (by decide)]; exact y2, fun j j0 j1 => ?_⟩
        rw [am_up_ne (by decide)]
        unfold am_up up2 up1
        by_cases y : i2 = r
        · subst y
          rw [if_pos rfl]
          by_cases z : j = i
          · subst z; rw [if_pos ⟨rfl, rfl⟩, if_pos rfl]
          · rw [if_neg (by omega), if_neg z]; exact y3 j j0 j1
        · rw [if_neg (by omega), if_neg y]; exact y3 j j0 j1
      · refine aw_aload_n dX9_set_40 rfl ?_
        refine aw_iconst dX9_set_41 (by decide) (by decide) ?_
        refine aw_v1i dX9_set_42 vl_RX9_71 (by first | rfl | assumption) (Nat.le_of_ble_eq_true rfl) (Nat.le_of_ble_eq_true rfl) (Nat.le_of_ble_eq_true rfl) (Nat.le_refl _) (Nat.le_refl _) (c_X9_found (by decide) (by decide)) ?_
        refine aw_ireturn dX9_set_45 rfl (Nat.le_refl _) (Nat.le_refl _) ?_
        rw [if_pos (by omega)]
        exact ⟨rfl, rfl, hM.fnd, fun c hc => am_up_ne (by omega)⟩
    · refine aw_aload_n dX9_set_18 rfl ?_
      refine aw_iconst dX9_set_19 (by decide) (by decide) ?_
      refine aw_v1i dX9_set_20 vl_RX9_71 (by first | rfl | assumption) (Nat.le_of_ble_eq_true rfl) (Nat.le_of_ble_eq_true rfl) (Nat.le_of_ble_eq_true rfl) (Nat.le_refl _) (Nat.le_refl _) (c_X9_found (by decide) (by decide)) ?_
      refine aw_ireturn dX9_set_23 rfl (Nat.le_refl _) (Nat.le_refl _) ?_
      have e1 : s_lan σ r = -1 := by
        by_cases y : s_lan σ r = -1
        · exact y
        · rw [if_neg y] at m1; omega
      rw [if_pos e1]
      exact ⟨rfl, rfl, hM.fnd, fun c hc => am_up_ne (by omega)⟩
  · refine aw_ldc (n := -1000001) dX9_set_7 kc_RX9_70 (by decide) ?_
    refine aw_ireturn dX9_set_9 rfl (Nat.le_refl _) (Nat.le_refl _) ?_
    rw [if_pos (by omega)]
    exact ⟨rfl, rfl, hM, fun _ _ => rfl⟩
theorem l_copyA {Q : Option AV → Tp → Mem → Prop} {a i b j k : Int} (a0 : 0 ≤ a) (a1 : a < 8) (i0 : 0 ≤ i) (k0 : 0 ≤ k) (ik : i + k ≤ 40)
    (hk : ∀ hh, (∀ c, c ≠ 377 → hh c = h c) → (∀ x, 0 ≤ x → x < k → hh 377 x = h 376 (40 * a + i + x)) → AW M_X9_copy 0 0 Q 126 [some (vR 373), some (vI a), some (vI i), some (vI b), some (vI j), some (vI k), none] [] (TT e q n L) hh 0 0) :
    ∀ (m x : Nat) (hh : Mem), (x : Int) + m = k → (∀ c, c ≠ 377 → hh c = h c) → (∀ y : Int, 0 ≤ y → y < x → hh 377 y = h 376 (40 * a + i + y)) → AW M_X9_copy 0 0 Q 92 [some (vR 373), some (vI a), some (vI i), some (vI b), some (vI j), some (vI k), some (vI x)] [] (TT e q n L) hh 0 0 := by
  intro m
  induction m with
  | zero =>
    intro x hh hx g1 g2
    have ex : (x : Int) = k := by omega
    refine aw_iload dX9_copy_92 rfl ?_
    refine aw_iload dX9_copy_94 rfl ?_
    refine aw_icmp_ge 126 dX9_copy_96 rfl (fun c96 => ?_) (fun c96 => ?_)
    · exact aw_less (by repeat' (first | exact trivial | exact rfl | apply And.intro)) (hk hh g1 (fun y y0 y1 => g2 y y0 (by omega)))
    · exfalso; omega
  | succ m ih =>
    intro x hh hx g1 g2
    have z := ih (x + 1)
    have e1 : hh 376 = h 376 := g1 376 (by decide)
    refine aw_iload dX9_copy_92 rfl ?_
    refine aw_iload dX9_copy_94 rfl ?_
    refine aw_icmp_ge 126 dX9_copy_96 rfl (fun c96 => ?_) (fun c96 => ?_)
    · exfalso; omega
    · refine aw_aload_n dX9_copy_99 rfl ?_
      refine aw_getR1 dX9_copy_100 fx_RX9_19 (by first | rfl | assumption) (by first | rfl | assumption) ?_
      refine aw_iload dX9_copy_103 rfl ?_
      refine aw_aload_n dX9_copy_105 rfl ?_
      refine aw_getR1 dX9_copy_106 fx_RX9_16 (by first | rfl | assumption) (by first | rfl | assumption) ?_
      refine aw_bipush dX9_copy_109 (by decide) (by decide) ?_
      refine aw_iload_n dX9_copy_111 rfl ?_
      refine aw_imul dX9_copy_112 (by omega) (by omega) ?_
      refine aw_iload_n dX9_copy_113 rfl ?_
      refine aw_iadd dX9_copy_114 (by omega) (by omega) ?_
      refine aw_iload dX9_copy_115 rfl ?_
      refine aw_iadd dX9_copy_117 (by omega) (by omega) ?_
      refine aw_iaload dX9_copy_118 (by first | rfl | assumption) (by omega) (by omega) ?_
      rw [e1]
      refine aw_iastore dX9_copy_119 (by first | rfl | assumption) (by omega) (by omega) (by omega) ?_
      refine aw_iinc (ls' := [_, _, _, _, _, _, _]) dX9_copy_120 (by decide) rfl (by omega) (by omega) rfl ?_
      refine aw_goto 92 dX9_copy_123 rfl ?_
      refine z _ (by omega) (fun c hc => by rw [am_up_ne hc]; exact g1 c hc) (fun y y0 y1 => ?_)
      unfold am_up
      by_cases yy : y = x
      · subst yy; rw [if_pos ⟨rfl, rfl⟩]
      · rw [if_neg (by omega)]; exact g2 y y0 (by omega)
theorem l_copyB {Q : Option AV → Tp → Mem → Prop} {a i b j k : Int} (b0 : 0 ≤ b) (b1 : b < 8) (j0 : 0 ≤ j) (k0 : 0 ≤ k) (jk : j + k ≤ 40)
    (hk : ∀ hh, (∀ c, c ≠ 376 → hh c = h c) → (∀ x, 0 ≤ x → x < k → hh 376 (40 * b + j + x) = h 377 x) → (∀ x, x < 40 * b + j ∨ 40 * b + j + k ≤ x → hh 376 x = h 376 x) → AW M_X9_copy 0 0 Q 164 [some (vR 373), some (vI a), some (vI i), some (vI b), some (vI j), some (vI k), none] [] (TT e q n L) hh 0 0) :
    ∀ (m x : Nat) (hh : Mem), (x : Int) + m = k → (∀ c, c ≠ 376 → hh c = h c) → (∀ y : Int, 0 ≤ y → y < x → hh 376 (40 * b + j + y) = h 377 y) → (∀ y : Int, y < 40 * b + j ∨ 40 * b + j + x ≤ y → hh 376 y = h 376 y) → AW M_X9_copy 0 0 Q 129 [some (vR 373), some (vI a), some (vI i), some (vI b), some (vI j), some (vI k), some (vI x)] [] (TT e q n L) hh 0 0 := by
  intro m
  induction m with
  | zero =>
    intro x hh hx g1 g2 g3
    have ex : (x : Int) = k := by omega
    refine aw_iload dX9_copy_129 rfl ?_
    refine aw_iload dX9_copy_131 rfl ?_
    refine aw_icmp_ge 164 dX9_copy_133 rfl (fun c133 => ?_) (fun c133 => ?_)
    · exact aw_less (by repeat' (first | exact trivial | exact rfl | apply And.intro)) (hk hh g1 (fun y y0 y1 => g2 y y0 (by omega)) (fun y hy => g3 y (by omega)))
    · exfalso; omega
  | succ m ih =>
    intro x hh hx g1 g2 g3
    have z := ih (x + 1)
    have e1 : hh 377 = h 377 := g1 377 (by decide)
    refine aw_iload dX9_copy_129 rfl ?_
    refine aw_iload dX9_copy_131 rfl ?_
    refine aw_icmp_ge 164 dX9_copy_133 rfl (fun c133 => ?_) (fun c133 => ?_)
    · exfalso; omega
    · refine aw_aload_n dX9_copy_136 rfl ?_
      refine aw_getR1 dX9_copy_137 fx_RX9_16 (by first | rfl | assumption) (by first | rfl | assumption) ?_
      refine aw_bipush dX9_copy_140 (by decide) (by decide) ?_
      refine aw_iload_n dX9_copy_142 rfl ?_
      refine aw_imul dX9_copy_143 (by omega) (by omega) ?_
      refine aw_iload dX9_copy_144 rfl ?_
      refine aw_iadd dX9_copy_146 (by omega) (by omega) ?_
      refine aw_iload dX9_copy_147 rfl ?_
      refine aw_iadd dX9_copy_149 (by omega) (by omega) ?_
      refine aw_aload_n dX9_copy_150 rfl ?_
      refine aw_getR1 dX9_copy_151 fx_RX9_19 (by first | rfl | assumption) (by first | rfl | assumption) ?_
      refine aw_iload dX9_copy_154 rfl ?_
      refine aw_iaload dX9_copy_156 (by first | rfl | assumption) (by omega) (by omega) ?_
      rw [e1]
      refine aw_iastore dX9_copy_157 (by first | rfl | assumption) (by omega) (by omega) (by omega) ?_
      refine aw_iinc (ls' := [_, _, _, _, _, _, _]) dX9_copy_158 (by decide) rfl (by omega) (by omega) rfl ?_
      refine aw_goto 129 dX9_copy_161 rfl ?_
      refine z _ (by omega) (fun c hc => by rw [am_up_ne hc]; exact g1 c hc) (fun y y0 y1 => ?_) (fun y hy => ?_)
      · unfold am_up
        by_cases yy : y = x
        · subst yy; rw [if_pos ⟨rfl, rfl⟩]
        · rw [if_neg (by omega)]; exact g2 y y0 (by omega)
      · unfold am_up
        rw [if_neg (by omega)]; exact g3 y (by omega)
set_option maxHeartbeats 2000000 in
theorem c_X9_copy {a i b j k : Int} (hM : MS h σ) (hW : WFst σ) : Sem M_X9_copy [vR 373, vI a, vI i, vI b, vI j, vI k] (TT e q n L) h 0 0 (PM (sp_copy σ a i b j k) h (TT e q n L)) := by
  unfold sp_copy
  have w := hW.1 a
  have m := hM.1 a
  have wb := hW.1 b
  have mb := hM.1 b
  have tl : 0 ≤ a → a < 8 → 0 ≤ b → b < 8 → 0 ≤ i → 0 ≤ k → 0 ≤ j → i + k ≤ 40 → j + k ≤ 40 → AW M_X9_copy 0 0 (PM (k, (σ.1, σ.2.1, up2 σ.2.2.1 b (fun x => if j ≤ x ∧ x < j + k then s_val σ a (i + (x - j)) else s_val σ b x), 0, σ.2.2.2.2)) h (TT e q n L)) 92 [some (vR 373), some (vI a), some (vI i), some (vI b), some (vI j), some (vI k), some (vI 0)] [] (TT e q n L) h 0 0 := by
    intro a0 a1 b0 b1 i0 k0 j0 ik jk
    refine l_copyA a0 a1 i0 k0 ik (fun h1 f1 f2 => ?_) k.toNat 0 h (by omega) (fun _ _ => rfl) (fun y y0 y1 => absurd y1 (by omega))
    have tl2 : AW M_X9_copy 0 0 (PM (k, (σ.1, σ.2.1, up2 σ.2.2.1 b (fun x => if j ≤ x ∧ x < j + k then s_val σ a (i + (x - j)) else s_val σ b x), 0, σ.2.2.2.2)) h (TT e q n L)) 129 [some (vR 373), some (vI a), some (vI i), some (vI b), some (vI j), some (vI k), some (vI 0)] [] (TT e q n L) h1 0 0 := by
      refine l_copyB (h := h1) b0 b1 j0 k0 jk (fun h2 g1 g2 g3 => ?_) k.toNat 0 h1 (by omega) (fun _ _ => rfl) (fun y y0 y1 => absurd y1 (by omega)) (fun _ _ => rfl)
      have ec : ∀ c, c ≠ 376 → c ≠ 377 → h2 c = h c := fun c c1 c2 => by rw [g1 c c1, f1 c c2]
      have e6 : h1 376 = h 376 := f1 376 (by decide)
      refine aw_aload_n dX9_copy_164 rfl ?_
      refine aw_iload dX9_copy_165 rfl ?_
      refine aw_v1i dX9_copy_167 vl_RX9_75 (by first | rfl | assumption) (Nat.le_of_ble_eq_true rfl) (Nat.le_of_ble_eq_true rfl) (Nat.le_of_ble_eq_true rfl) (Nat.le_refl _) (Nat.le_refl _) (c_X9_well) ?_
      refine aw_ireturn dX9_copy_170 rfl (Nat.le_refl _) (Nat.le_refl _) ?_
      refine ⟨rfl, rfl, hM.row (fun i2 y0 y1 => ?_) (by simp [am_up]) (fun c hc => by rw [am_up_ne (by omega), ec c (by omega) (by omega)]) (fun k2 hk2 => by unfold am_up; rw [if_neg (by omega), ec 373 (by decide) (by decide)]), fun c hc => by rw [am_up_ne (by omega), ec c (by omega) (by omega)]⟩
      obtain ⟨q1, q2, q3⟩ := hM.1 i2 y0 y1
      refine ⟨by rw [am_up_ne (by decide), ec 374 (by decide) (by decide)]; exact q1, by rw [am_up_ne (by decide), ec 375 (by decide) (by decide)]; exact q2, fun x x0 x1 => ?_⟩
      rw [am_up_ne (by decide)]
      unfold up2
      by_cases y : i2 = b
      · subst y
        rw [if_pos rfl]
        by_cases z : j ≤ x ∧ x < j + k
        · rw [if_pos z, ← (hM.1 a a0 a1).2.2 (i + (x - j)) (by omega) (by omega)]
          have g := g2 (x - j) (by omega) (by omega)
          rw [show 40 * i2 + j + (x - j) = 40 * i2 + x by omega] at g
          rw [g, f2 (x - j) (by omega) (by omega)]
          exact congrArg (h 376) (by omega)
        · rw [if_neg z, g3 _ (by omega), e6]; exact q3 x x0 x1
      · rw [if_neg y, g3 _ (by omega), e6]; exact q3 x x0 x1
    refine aw_iconst dX9_copy_126 (by decide) (by decide) ?_
    refine aw_istore (ls' := [_, _, _, _, _, _, _]) dX9_copy_127 (by decide) rfl ?_
    exact tl2
  have ml : ∀ x : Int, (x = -1 ↔ (if x = -1 then (-1000000 : Int) else x) = -1000000) ∨ x = -1000000 := fun x => by by_cases y : x = -1; rw [if_pos y]; omega; rw [if_neg y]; omega
  refine sem_intro (by decide) rfl (Nat.le_of_ble_eq_true rfl) rfl ?_
  refine aw_iload_n dX9_copy_0 rfl ?_
  refine aw_s1i dX9_copy_1 sl_RX9_66 (Nat.le_of_ble_eq_true rfl) (Nat.le_of_ble_eq_true rfl) (Nat.le_of_ble_eq_true rfl) (Nat.le_refl _) (Nat.le_refl _) (c_X9_isRow) ?_
  refine aw_ifB_eq 14 dX9_copy_4 rfl (fun c4 => ?_) (fun c4 => ?_)
  · refine aw_ldc (n := -1000001) dX9_copy_14 kc_RX9_70 (by decide) ?_
    refine aw_ireturn dX9_copy_16 rfl (Nat.le_refl _) (Nat.le_refl _) ?_
    rw [if_pos (by omega)]
    exact ⟨rfl, rfl, hM, fun _ _ => rfl⟩
  · refine aw_iload_n dX9_copy_7 rfl ?_
    refine aw_s1i dX9_copy_8 sl_RX9_66 (Nat.le_of_ble_eq_true rfl) (Nat.le_of_ble_eq_true rfl) (Nat.le_of_ble_eq_true rfl) (Nat.le_refl _) (Nat.le_refl _) (c_X9_isRow) ?_
    refine aw_ifB_ne 17 dX9_copy_11 rfl (fun c11 => ?_) (fun c11 => ?_)
    · have w2 := w (by omega) (by omega)
      obtain ⟨m1, m2, m3⟩ := m (by omega) (by omega)
      have wb2 := wb (by omega) (by omega)
      obtain ⟨mb1, mb2, mb3⟩ := mb (by omega) (by omega)
      have ma' := ml (s_lan σ a)
      have mb' := ml (s_lan σ b)
      rw [← m1] at ma'
      rw [← mb1] at mb'
      rw [if_neg (by omega)]
      refine aw_aload_n dX9_copy_17 rfl ?_
      refine aw_iload_n dX9_copy_18 rfl ?_
      refine aw_v1i dX9_copy_19 vl_RX9_78 (by first | rfl | assumption) (Nat.le_of_ble_eq_true rfl) (Nat.le_of_ble_eq_true rfl) (Nat.le_of_ble_eq_true rfl) (Nat.le_refl _) (Nat.le_refl _) (c_X9_isMissing (by omega) (by omega)) ?_
      refine aw_ifB_ne 33 dX9_copy_22 rfl (fun c22 => ?_) (fun c22 => ?_)
      · refine aw_aload_n dX9_copy_33 rfl ?_
        refine aw_iconst dX9_copy_34 (by decide) (by decide) ?_
        refine aw_v1i dX9_copy_35 vl_RX9_71 (by first | rfl | assumption) (Nat.le_of_ble_eq_true rfl) (Nat.le_of_ble_eq_true rfl) (Nat.le_of_ble_eq_true rfl) (Nat.le_refl _) (Nat.le_refl _) (c_X9_found (by decide) (by decide)) ?_
        refine aw_ireturn dX9_copy_38 rfl (Nat.le_refl _) (Nat.le_refl _) ?_
        rw [if_pos (by omega)]
        exact ⟨rfl, rfl, hM.fnd, fun c hc => am_up_ne (by omega)⟩
      · refine aw_aload_n dX9_copy_25 rfl ?_
        refine aw_iload_n dX9_copy_26 rfl ?_
        refine aw_v1i dX9_copy_27 vl_RX9_78 (by first | rfl | assumption) (Nat.le_of_ble_eq_true rfl) (Nat.le_of_ble_eq_true rfl) (Nat.le_of_ble_eq_true rfl) (Nat.le_refl _) (Nat.le_refl _) (c_X9_isMissing (by omega) (by omega)) ?_
        refine aw_ifB_eq 39 dX9_copy_30 rfl (fun c30 => ?_) (fun c30 => ?_)
        · have la : s_lan σ a ≠ -1 := by omega
          have lb : s_lan σ b ≠ -1 := by omega
          rw [if_neg la] at m1
          rw [if_neg lb] at mb1
          rw [if_neg (by omega)]
          refine aw_aload_n dX9_copy_39 rfl ?_
          refine aw_getR1 dX9_copy_40 fx_RX9_7 (by first | rfl | assumption) (by first | rfl | assumption) ?_
          refine aw_iload_n dX9_copy_43 rfl ?_
          refine aw_iaload dX9_copy_44 (by first | rfl | assumption) (by omega) (by omega) ?_
          refine aw_aload_n dX9_copy_45 rfl ?_
          refine aw_getR1 dX9_copy_46 fx_RX9_7 (by first | rfl | assumption) (by first | rfl | assumption) ?_
          refine aw_iload_n dX9_copy_49 rfl ?_
          refine aw_iaload dX9_copy_50 (by first | rfl | assumption) (by omega) (by omega) ?_
          refine aw_icmp_eq 60 dX9_copy_51 rfl (fun c51 => ?_) (fun c51 => ?_)
          · rw [if_neg (by omega)]
            refine aw_aload_n dX9_copy_60 rfl ?_
            refine aw_iload_n dX9_copy_61 rfl ?_
            refine aw_iload_n dX9_copy_62 rfl ?_
            refine aw_iload dX9_copy_63 rfl ?_
            refine aw_v3i dX9_copy_65 vl_RX9_85 (by first | rfl | assumption) (Nat.le_of_ble_eq_true rfl) (Nat.le_of_ble_eq_true rfl) (Nat.le_of_ble_eq_true rfl) (Nat.le_refl _) (Nat.le_refl _) (c_X9_isPart (by omega) (by omega) (by omega) (by omega)) ?_
            refine aw_ifB_eq 83 dX9_copy_68 rfl (fun c68 => ?_) (fun c68 => ?_)
            · refine aw_aload_n dX9_copy_83 rfl ?_
              refine aw_iconst dX9_copy_84 (by decide) (by decide) ?_
              refine aw_v1i dX9_copy_85 vl_RX9_71 (by first | rfl | assumption) (Nat.le_of_ble_eq_true rfl) (Nat.le_of_ble_eq_true rfl) (Nat.le_of_ble_eq_true rfl) (Nat.le_refl _) (Nat.le_refl _) (c_X9_found (by decide) (by decide)) ?_
              refine aw_ireturn dX9_copy_88 rfl (Nat.le_refl _) (Nat.le_refl _) ?_
              rw [if_pos (by omega)]
              exact ⟨rfl, rfl, hM.fnd, fun c hc => am_up_ne (by omega)⟩
            · refine aw_aload_n dX9_copy_71 rfl ?_
              refine aw_iload_n dX9_copy_72 rfl ?_
              refine aw_iload dX9_copy_73 rfl ?_
              refine aw_iload dX9_copy_75 rfl ?_
              refine aw_v3i dX9_copy_77 vl_RX9_85 (by first | rfl | assumption) (Nat.le_of_ble_eq_true rfl) (Nat.le_of_ble_eq_true rfl) (Nat.le_of_ble_eq_true rfl) (Nat.le_refl _) (Nat.le_refl _) (c_X9_isPart (by omega) (by omega) (by omega) (by omega)) ?_
              refine aw_ifB_ne 89 dX9_copy_80 rfl (fun c80 => ?_) (fun c80 => ?_)
              · refine aw_iconst dX9_copy_89 (by decide) (by decide) ?_
                refine aw_istore (ls' := [_, _, _, _, _, _, _]) dX9_copy_90 (by decide) rfl ?_
                rw [if_neg (by omega)]
                exact tl (by omega) (by omega) (by omega) (by omega) (by omega) (by omega) (by omega) (by omega) (by omega)
              · refine aw_aload_n dX9_copy_83 rfl ?_
                refine aw_iconst dX9_copy_84 (by decide) (by decide) ?_
                refine aw_v1i dX9_copy_85 vl_RX9_71 (by first | rfl | assumption) (Nat.le_of_ble_eq_true rfl) (Nat.le_of_ble_eq_true rfl) (Nat.le_of_ble_eq_true rfl) (Nat.le_refl _) (Nat.le_refl _) (c_X9_found (by decide) (by decide)) ?_
                refine aw_ireturn dX9_copy_88 rfl (Nat.le_refl _) (Nat.le_refl _) ?_
                rw [if_pos (by omega)]
                exact ⟨rfl, rfl, hM.fnd, fun c hc => am_up_ne (by omega)⟩
          · refine aw_aload_n dX9_copy_54 rfl ?_
            refine aw_iconst dX9_copy_55 (by decide) (by decide) ?_
            refine aw_v1i dX9_copy_56 vl_RX9_71 (by first | rfl | assumption) (Nat.le_of_ble_eq_true rfl) (Nat.le_of_ble_eq_true rfl) (Nat.le_of_ble_eq_true rfl) (Nat.le_refl _) (Nat.le_refl _) (c_X9_found (by decide) (by decide)) ?_
            refine aw_ireturn dX9_copy_59 rfl (Nat.le_refl _) (Nat.le_refl _) ?_
            rw [if_pos (by omega)]
            exact ⟨rfl, rfl, hM.fnd, fun c hc => am_up_ne (by omega)⟩
        · refine aw_aload_n dX9_copy_33 rfl ?_
          refine aw_iconst dX9_copy_34 (by decide) (by decide) ?_
          refine aw_v1i dX9_copy_35 vl_RX9_71 (by first | rfl | assumption) (Nat.le_of_ble_eq_true rfl) (Nat.le_of_ble_eq_true rfl) (Nat.le_of_ble_eq_true rfl) (Nat.le_refl _) (Nat.le_refl _) (c_X9_found (by decide) (by decide)) ?_
          refine aw_ireturn dX9_copy_38 rfl (Nat.le_refl _) (Nat.le_refl _) ?_
          rw [if_pos (by omega)]
          exact ⟨rfl, rfl, hM.fnd, fun c hc => am_up_ne (by omega)⟩
    · refine aw_ldc (n := -1000001) dX9_copy_14 kc_RX9_70 (by decide) ?_
      refine aw_ireturn dX9_copy_16 rfl (Nat.le_refl _) (Nat.le_refl _) ?_
      rw [if_pos (by omega)]
      exact ⟨rfl, rfl, hM, fun _ _ => rfl⟩
end MOJ
