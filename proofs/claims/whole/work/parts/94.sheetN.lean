/-! the reference: the whole sheet -/
section SCF
variable {e q n L : Nat} {h : Mem} {b : Int → Int} {l F0 : Int}
theorem itS_ge {p : Int} {V : VW} (h : (itS b l ((p, 0), V)).1.2 = 0) : p + 1 ≤ (itS b l ((p, 0), V)).1.1 := by
  by_cases a : kdS (if p < l then b p else 32) = -1000000
  · rw [itS_1 a] at h; exact absurd h (by show ¬ (1 : Int) = 0; decide)
  · by_cases c : 12 ≤ V 0 0
    · rw [itS_2 a c] at h; exact absurd h (by show ¬ (3 : Int) = 0; decide)
    · rw [itS_3 a c] at h ⊢
      obtain ⟨s1, s2⟩ := sgS_0 h
      obtain ⟨n1, n2, -, -⟩ := noS_0 s1
      show p + 1 ≤ (sgS b l 59 (noS b l (kdS (if p < l then b p else 32)) (p + 1, 0))).1
      rw [s2]
      have n3 : p + 1 ≤ (noS b l (kdS (if p < l then b p else 32)) (p + 1, 0)).1 := n2
      omega
set_option maxHeartbeats 2000000 in
theorem l_items {Q : Option AV → Tp → Mem → Prop} {S : PS} (hl : l ≤ 80) (hb : ∀ j, 0 ≤ j → j < l → 0 ≤ b j ∧ b j ≤ 255)
    (hk : ∀ (hh : Mem) (x : Int × Int) (V : VW), RM b l F0 hh x → (x.2 = 0 → DI hh V) → (0 ≤ hh 380 3 ∧ hh 380 3 ≤ 12) → FK3 h hh → S = (muS (if 0 < V 0 0 ∧ x.1 = l then 1 else 0) 1 x, V) → AW M_X9_sheet 0 0 Q 152 [some (vR 373), none] [] (TT e q n L) hh 0 0) :
    ∀ (m : Nat) (x : Int × Int) (V : VW) (hh : Mem), RM b l F0 hh x → (x.2 = 0 → DI hh V) → (0 ≤ hh 380 3 ∧ hh 380 3 ≤ 12) → FK3 h hh → (x.2 = 0 → l - x.1 < m) → itN b l m (x, V) = S → AW M_X9_sheet 0 0 Q 120 [some (vR 373), none] [] (TT e q n L) hh 0 0 := by
  have ex : ∀ (x : Int × Int) (V : VW) (hh : Mem), RM b l F0 hh x → x.2 ≠ 0 → (0 ≤ hh 380 3 ∧ hh 380 3 ≤ 12) → FK3 h hh → S = (x, V) → AW M_X9_sheet 0 0 Q 120 [some (vR 373), none] [] (TT e q n L) hh 0 0 := by
    intro x V hh hR hx bd hf hS
    have w8 := (hR.2.2.1 hx).1
    have w9 := hR.2.2.2.1
    refine aw_aload_n dX9_sheet_120 rfl ?_
    refine aw_v0i dX9_sheet_121 vl_RX9_110 (by first | rfl | assumption) (Nat.le_of_ble_eq_true rfl) (Nat.le_of_ble_eq_true rfl) (Nat.le_of_ble_eq_true rfl) (Nat.le_refl _) (Nat.le_refl _) (c_X9_isWell) ?_
    refine aw_ifB_eq 152 dX9_sheet_124 rfl (fun c124 => ?_) (fun c124 => ?_)
    · exact hk hh x V hR (fun z => absurd z hx) bd hf (by rw [hS]; unfold muS; rw [if_pos hx])
    · exfalso; omega
  intro m
  induction m with
  | zero =>
    intro x V hh hR hD bd hf hm hS
    by_cases y : x.2 = 0
    · have := hm y
      have := hR.2.2.2.2
      exfalso; omega
    · exact ex x V hh hR y bd hf hS.symm
  | succ m ih =>
    intro x V hh hR hD bd hf hm hS
    by_cases y : x.2 = 0
    · obtain ⟨p, f⟩ := x
      have y' : f = 0 := y
      subst y'
      have hD' := hD rfl
      have hm' := hm rfl
      have p0 : 0 ≤ p := hR.2.2.2.1
      have p1 : p ≤ l := hR.2.2.2.2
      obtain ⟨s1, s2, s3, s4, s5, s6⟩ := hR.2.1 rfl
      have s5' : hh 373 11 = tkN b l p := s5
      have s6' : hh 373 12 = vlN b l p := s6
      have hm2 : l - p < ((m + 1 : Nat) : Int) := hm'
      have ti := tk_iff (p := p) hb p0
      have eN : itN b l (m + 1) ((p, 0), V) = if (0 : Int) = 0 ∧ (p < l ∨ V 0 0 = 0) then itN b l m (itS b l ((p, 0), V)) else ((p, 0), V) := rfl
      rw [eN] at hS
      have v0 := hD'.2.2.2.1
      by_cases kz : kdS (if p < l then b p else 32) = -1000000
      · have hS2 : S = (muS (if 0 < V 0 0 ∧ p = l then 1 else 0) 1 (p, 0), V) := by
          rw [← hS]
          by_cases c : p < l ∨ V 0 0 = 0
          · rw [if_pos ⟨rfl, c⟩, itS_1 kz, itN_f (by show (1 : Int) ≠ 0; decide), if_neg (by omega)]
            rfl
          · rw [if_neg (fun z => c z.2), if_pos (by omega)]
            rfl
        refine aw_aload_n dX9_sheet_120 rfl ?_
        refine aw_v0i dX9_sheet_121 vl_RX9_110 (by first | rfl | assumption) (Nat.le_of_ble_eq_true rfl) (Nat.le_of_ble_eq_true rfl) (Nat.le_of_ble_eq_true rfl) (Nat.le_refl _) (Nat.le_refl _) (c_X9_isWell) ?_
        refine aw_ifB_eq 152 dX9_sheet_124 rfl (fun c124 => ?_) (fun c124 => ?_)
        · exfalso; omega
        · refine aw_aload_n dX9_sheet_127 rfl ?_
          refine aw_getI dX9_sheet_128 fx_RX9_104 (by first | rfl | assumption) ?_
          rw [s5']
          refine aw_iconst dX9_sheet_131 (by decide) (by decide) ?_
          refine aw_icmp_ne 152 dX9_sheet_132 rfl (fun c132 => ?_) (fun c132 => ?_)
          · exact hk hh (p, 0) V hR hD bd hf hS2
          · refine aw_aload_n dX9_sheet_135 rfl ?_
            refine aw_getI dX9_sheet_136 fx_RX9_101 (by first | rfl | assumption) ?_
            have pl := (ti.2.2.2.1.mp c132).1
            have e12 : hh 373 12 = b p := by rw [s6']; exact ti.2.2.2.2.1 (ti.2.2.2.2.2 c132) pl
            rw [e12]
            refine aw_s1i dX9_sheet_139 sl_RX9_127 (Nat.le_of_ble_eq_true rfl) (Nat.le_of_ble_eq_true rfl) (Nat.le_of_ble_eq_true rfl) (Nat.le_refl _) (Nat.le_refl _) (c_X9_kindOf) ?_
            refine aw_if_le 152 dX9_sheet_142 rfl (fun c142 => ?_) (fun c142 => ?_)
            · exact hk hh (p, 0) V hR hD bd hf hS2
            · exfalso
              rw [if_pos pl] at kz
              unfold kdM at c142
              rw [if_pos kz] at c142
              omega
      · have pl : p < l := by
          by_cases w : p < l
          · exact w
          · rw [if_neg w] at kz; exact absurd rfl kz
        rw [if_pos pl] at kz
        have kb := kdS_b2 kz
        have tk1 := ti.2.2.2.1.mpr ⟨pl, kb.2.2.1, kb.2.2.2⟩
        have e12 : hh 373 12 = b p := by rw [s6']; exact ti.2.2.2.2.1 (ti.2.2.2.2.2 tk1) pl
        have ek : kdM (b p) = kdS (b p) := if_neg kz
        rw [if_pos ⟨rfl, Or.inl pl⟩] at hS
        refine aw_aload_n dX9_sheet_120 rfl ?_
        refine aw_v0i dX9_sheet_121 vl_RX9_110 (by first | rfl | assumption) (Nat.le_of_ble_eq_true rfl) (Nat.le_of_ble_eq_true rfl) (Nat.le_of_ble_eq_true rfl) (Nat.le_refl _) (Nat.le_refl _) (c_X9_isWell) ?_
        refine aw_ifB_eq 152 dX9_sheet_124 rfl (fun c124 => ?_) (fun c124 => ?_)
        · exfalso; omega
        · refine aw_aload_n dX9_sheet_127 rfl ?_
          refine aw_getI dX9_sheet_128 fx_RX9_104 (by first | rfl | assumption) ?_
          rw [s5']
          refine aw_iconst dX9_sheet_131 (by decide) (by decide) ?_
          refine aw_icmp_ne 152 dX9_sheet_132 rfl (fun c132 => ?_) (fun c132 => ?_)
          · exact absurd tk1 c132
          · refine aw_aload_n dX9_sheet_135 rfl ?_
            refine aw_getI dX9_sheet_136 fx_RX9_101 (by first | rfl | assumption) ?_
            rw [e12]
            refine aw_s1i dX9_sheet_139 sl_RX9_127 (Nat.le_of_ble_eq_true rfl) (Nat.le_of_ble_eq_true rfl) (Nat.le_of_ble_eq_true rfl) (Nat.le_refl _) (Nat.le_refl _) (c_X9_kindOf) ?_
            rw [ek]
            refine aw_if_le 152 dX9_sheet_142 rfl (fun c142 => ?_) (fun c142 => ?_)
            · exfalso; omega
            · refine aw_aload_n dX9_sheet_145 rfl ?_
              refine aw_v0q dX9_sheet_146 vl_RX9_133 (by first | rfl | assumption) (Nat.le_of_ble_eq_true rfl) (Nat.le_of_ble_eq_true rfl) (Nat.le_of_ble_eq_true rfl) (Nat.le_refl _) (Nat.le_refl _) (c_X9_readsItem hl hb hR hD' pl kz) ?_
              intro v t' h1 hq
              obtain ⟨rfl, rfl, g1, g2, g3, g4⟩ := hq
              refine aw_goto 120 dX9_sheet_149 rfl ?_
              exact ih _ _ h1 g1 g2 g3 (hf.tr g4) (fun z => by have := itS_ge z; omega) hS
    · exact ex x V hh hR y bd hf (by rw [← hS]; exact itN_f y (m + 1))
def arM (h : Mem) : Nat → Bool
  | 0 => true
  | k + 1 => arM h k && (decide (3 < h 380 (5 + 4 * (k : Int))) || decide (h 380 (5 + 4 * (k : Int) + 1) < h 380 3))
theorem l_are {t : Tp} {Q : Option AV → Tp → Mem → Prop} (sa : t.2.1 380 = (20, 53)) (b0 : 0 ≤ h 380 3) (b1 : h 380 3 ≤ 12) (hk : Q (some (vI (if arM h (h 380 3).toNat = true then 1 else 0))) t h) :
    ∀ (m k : Nat) (f : Int), (k : Int) + m = h 380 3 → f = (if arM h k = true then 1 else 0) → AW M_X9_areThere 0 0 Q 4 [some (vR 380), some (vI f), some (vI k)] [] t h 0 0 := by
  intro m
  induction m with
  | zero =>
    intro k f hi hf
    have e1 : (h 380 3).toNat = k := by omega
    rw [e1] at hk
    subst hf
    refine aw_iload_n dX9_areThere_4 rfl ?_
    refine aw_aload_n dX9_areThere_5 rfl ?_
    refine aw_iconst dX9_areThere_6 (by decide) (by decide) ?_
    refine aw_iaload dX9_areThere_7 (by first | rfl | assumption) (by omega) (by omega) ?_
    refine aw_icmp_ge 53 dX9_areThere_8 rfl (fun c8 => ?_) (fun c8 => ?_)
    · refine aw_iload_n dX9_areThere_53 rfl ?_
      refine aw_zreturn dX9_areThere_54 rfl (Nat.le_refl _) (Nat.le_refl _) (by split <;> omega) (by split <;> omega) ?_
      exact hk
    · exfalso; omega
  | succ m ih =>
    intro k f hi hf
    have z := ih (k + 1)
    have es : arM h (k + 1) = true ↔ (arM h k = true ∧ (3 < h 380 (5 + 4 * (k : Int)) ∨ h 380 (5 + 4 * (k : Int) + 1) < h 380 3)) := by
      show (arM h k && (decide _ || decide _)) = true ↔ _
      rw [Bool.and_eq_true, Bool.or_eq_true, decide_eq_true_eq, decide_eq_true_eq]
    have h1 : ¬ f = 0 → arM h k = true := fun y => by
      by_cases w : arM h k = true
      · exact w
      · rw [if_neg w] at hf; exact absurd hf y
    have h0 : f = 0 → ¬ arM h k = true := fun y w => by rw [if_pos w] at hf; omega
    refine aw_iload_n dX9_areThere_4 rfl ?_
    refine aw_aload_n dX9_areThere_5 rfl ?_
    refine aw_iconst dX9_areThere_6 (by decide) (by decide) ?_
    refine aw_iaload dX9_areThere_7 (by first | rfl | assumption) (by omega) (by omega) ?_
    refine aw_icmp_ge 53 dX9_areThere_8 rfl (fun c8 => ?_) (fun c8 => ?_)
    · exfalso; omega
    · refine aw_iload_n dX9_areThere_11 rfl ?_
      refine aw_if_eq 45 dX9_areThere_12 rfl (fun c12 => ?_) (fun c12 => ?_)
      · refine aw_iconst dX9_areThere_45 (by decide) (by decide) ?_
        refine aw_istore_n (ls' := [_, _, _]) dX9_areThere_46 (by decide) rfl ?_
        refine aw_iinc (ls' := [_, _, _]) dX9_areThere_47 (by decide) rfl (by omega) (by omega) rfl ?_
        refine aw_goto 4 dX9_areThere_50 rfl ?_
        refine z _ (by omega) ?_
        first | exact (if_neg (fun w => h0 c12 (es.mp w).1)).symm | exact (if_pos (es.mpr ⟨h1 c12, Or.inl c23⟩)).symm | exact (if_pos (es.mpr ⟨h1 c12, Or.inr (by omega)⟩)).symm | exact (if_neg (fun w => by have := (es.mp w).2; omega)).symm
      · refine aw_aload_n dX9_areThere_15 rfl ?_
        refine aw_iconst dX9_areThere_16 (by decide) (by decide) ?_
        refine aw_iconst dX9_areThere_17 (by decide) (by decide) ?_
        refine aw_iload_n dX9_areThere_18 rfl ?_
        refine aw_imul dX9_areThere_19 (by omega) (by omega) ?_
        refine aw_iadd dX9_areThere_20 (by omega) (by omega) ?_
        refine aw_iaload dX9_areThere_21 (by first | rfl | assumption) (by omega) (by omega) ?_
        refine aw_iconst dX9_areThere_22 (by decide) (by decide) ?_
        refine aw_icmp_gt 41 dX9_areThere_23 rfl (fun c23 => ?_) (fun c23 => ?_)
        · refine aw_iconst dX9_areThere_41 (by decide) (by decide) ?_
          refine aw_goto 46 dX9_areThere_42 rfl ?_
          refine aw_istore_n (ls' := [_, _, _]) dX9_areThere_46 (by decide) rfl ?_
          refine aw_iinc (ls' := [_, _, _]) dX9_areThere_47 (by decide) rfl (by omega) (by omega) rfl ?_
          refine aw_goto 4 dX9_areThere_50 rfl ?_
          refine z _ (by omega) ?_
          first | exact (if_neg (fun w => h0 c12 (es.mp w).1)).symm | exact (if_pos (es.mpr ⟨h1 c12, Or.inl c23⟩)).symm | exact (if_pos (es.mpr ⟨h1 c12, Or.inr (by omega)⟩)).symm | exact (if_neg (fun w => by have := (es.mp w).2; omega)).symm
        · refine aw_aload_n dX9_areThere_26 rfl ?_
          refine aw_iconst dX9_areThere_27 (by decide) (by decide) ?_
          refine aw_iconst dX9_areThere_28 (by decide) (by decide) ?_
          refine aw_iload_n dX9_areThere_29 rfl ?_
          refine aw_imul dX9_areThere_30 (by omega) (by omega) ?_
          refine aw_iadd dX9_areThere_31 (by omega) (by omega) ?_
          refine aw_iconst dX9_areThere_32 (by decide) (by decide) ?_
          refine aw_iadd dX9_areThere_33 (by omega) (by omega) ?_
          refine aw_iaload dX9_areThere_34 (by first | rfl | assumption) (by omega) (by omega) ?_
          refine aw_aload_n dX9_areThere_35 rfl ?_
          refine aw_iconst dX9_areThere_36 (by decide) (by decide) ?_
          refine aw_iaload dX9_areThere_37 (by first | rfl | assumption) (by omega) (by omega) ?_
          refine aw_icmp_ge 45 dX9_areThere_38 rfl (fun c38 => ?_) (fun c38 => ?_)
          · refine aw_iconst dX9_areThere_45 (by decide) (by decide) ?_
            refine aw_istore_n (ls' := [_, _, _]) dX9_areThere_46 (by decide) rfl ?_
            refine aw_iinc (ls' := [_, _, _]) dX9_areThere_47 (by decide) rfl (by omega) (by omega) rfl ?_
            refine aw_goto 4 dX9_areThere_50 rfl ?_
            refine z _ (by omega) ?_
            first | exact (if_neg (fun w => h0 c12 (es.mp w).1)).symm | exact (if_pos (es.mpr ⟨h1 c12, Or.inl c23⟩)).symm | exact (if_pos (es.mpr ⟨h1 c12, Or.inr (by omega)⟩)).symm | exact (if_neg (fun w => by have := (es.mp w).2; omega)).symm
          · refine aw_iconst dX9_areThere_41 (by decide) (by decide) ?_
            refine aw_goto 46 dX9_areThere_42 rfl ?_
            refine aw_istore_n (ls' := [_, _, _]) dX9_areThere_46 (by decide) rfl ?_
            refine aw_iinc (ls' := [_, _, _]) dX9_areThere_47 (by decide) rfl (by omega) (by omega) rfl ?_
            refine aw_goto 4 dX9_areThere_50 rfl ?_
            refine z _ (by omega) ?_
            first | exact (if_neg (fun w => h0 c12 (es.mp w).1)).symm | exact (if_pos (es.mpr ⟨h1 c12, Or.inl c23⟩)).symm | exact (if_pos (es.mpr ⟨h1 c12, Or.inr (by omega)⟩)).symm | exact (if_neg (fun w => by have := (es.mp w).2; omega)).symm
theorem c_X9_areThere {t : Tp} (sa : t.2.1 380 = (20, 53)) (b0 : 0 ≤ h 380 3) (b1 : h 380 3 ≤ 12) : SemE M_X9_areThere [vR 380] t h (some (vI (if arM h (h 380 3).toNat = true then 1 else 0))) t h := by
  refine sem_intro (by decide) rfl (Nat.le_of_ble_eq_true rfl) rfl ?_
  refine aw_iconst dX9_areThere_0 (by decide) (by decide) ?_
  refine aw_istore_n (ls' := [_, _, _]) dX9_areThere_1 (by decide) rfl ?_
  refine aw_iconst dX9_areThere_2 (by decide) (by decide) ?_
  refine aw_istore_n (ls' := [_, _, _]) dX9_areThere_3 (by decide) rfl ?_
  exact l_are sa b0 b1 ⟨rfl, rfl, rfl⟩ (h 380 3).toNat 0 1 (by omega) rfl
theorem arM_lk {V : VW} (hD : DI h V) (hP : PV V) : ∀ k : Nat, (k : Int) ≤ V 0 0 → arM h k = lkS V k
  | 0, _ => rfl
  | k + 1, hk => by
    obtain ⟨⟨d1, -⟩, d6, -⟩ := id hD
    obtain ⟨g1, g2, -⟩ := d6 k (by omega) (by omega)
    obtain ⟨o1, o2, o3, o4, -⟩ := hP k (by omega) (by omega)
    show (arM h k && (decide (3 < h 380 (5 + 4 * (k : Int))) || decide (h 380 (5 + 4 * (k : Int) + 1) < h 380 3))) = (lkS V k && decide (mbn (V 0 0) (V 1 k) (V 2 k)))
    rw [arM_lk hD hP k (by omega), g1, g2, d1]
    congr 1
    rw [Bool.eq_iff_iff, Bool.or_eq_true, decide_eq_true_eq, decide_eq_true_eq, decide_eq_true_eq]
    unfold mbn
    constructor
    · intro z
      by_cases w : V 1 k ≤ 3
      · have := o3 w; omega
      · by_cases w4 : V 1 k = 4
        · have := o4 w4; omega
        · omega
    · intro z
      omega
theorem l_zero {Q : Option AV → Tp → Mem → Prop} (hk : ∀ hh, (∀ c, c ≠ 380 → hh c = h c) → (∀ j : Int, 0 ≤ j → j < 53 → hh 380 j = 0) → AW M_X9_sheet 0 0 Q 21 [some (vR 373), none] [] (TT e q n L) hh 0 0) :
    ∀ (m k : Nat) (hh : Mem), k + m = 53 → (∀ c, c ≠ 380 → hh c = h c) → (∀ j : Int, 0 ≤ j → j < k → hh 380 j = 0) → AW M_X9_sheet 0 0 Q 2 [some (vR 373), some (vI k)] [] (TT e q n L) hh 0 0 := by
  intro m
  induction m with
  | zero =>
    intro k hh hi g1 g2
    have ek : k = 53 := by omega
    subst ek
    refine aw_iload_n dX9_sheet_2 rfl ?_
    refine aw_bipush dX9_sheet_3 (by decide) (by decide) ?_
    refine aw_icmp_ge 21 dX9_sheet_5 rfl (fun c5 => ?_) (fun c5 => ?_)
    · exact aw_less (by repeat' (first | exact trivial | exact rfl | apply And.intro)) (hk hh g1 g2)
    · exfalso; omega
  | succ m ih =>
    intro k hh hi g1 g2
    have z := ih (k + 1)
    refine aw_iload_n dX9_sheet_2 rfl ?_
    refine aw_bipush dX9_sheet_3 (by decide) (by decide) ?_
    refine aw_icmp_ge 21 dX9_sheet_5 rfl (fun c5 => ?_) (fun c5 => ?_)
    · exfalso; omega
    · refine aw_aload_n dX9_sheet_8 rfl ?_
      refine aw_getR1 dX9_sheet_9 fx_RX9_28 (by first | rfl | assumption) (by first | rfl | assumption) ?_
      refine aw_iload_n dX9_sheet_12 rfl ?_
      refine aw_iconst dX9_sheet_13 (by decide) (by decide) ?_
      refine aw_iastore dX9_sheet_14 (by first | rfl | assumption) (by omega) (by omega) (by omega) ?_
      refine aw_iinc (ls' := [_, _]) dX9_sheet_15 (by decide) rfl (by omega) (by omega) rfl ?_
      refine aw_goto 2 dX9_sheet_18 rfl ?_
      refine z _ (by omega) (fun c hc => by rw [am_up_ne hc]; exact g1 c hc) (fun j j0 j1 => ?_)
      unfold am_up
      by_cases y : j = k
      · rw [if_pos ⟨rfl, y⟩]
      · rw [if_neg (by omega)]; exact g2 j j0 (by omega)
theorem DI_bgn {V : VW} {h h' : Mem} (hD : DI h V) (hc : ∀ k, 0 ≤ k → k < 53 → h' 379 (0 + k) = h 380 (0 + k)) : mV h' 379 0 = bgn V := by
  obtain ⟨⟨d1, d2, d3, d4, d5⟩, d6, d7, d8, d9⟩ := hD
  have c : ∀ k, 0 ≤ k → k < 53 → h' 379 k = h 380 k := fun k k0 k1 => by have := hc k k0 k1; rw [show (0 : Int) + k = k by omega] at this; exact this
  have e0 : ∀ k : Int, 0 ≤ k → k < 5 → bgn V 0 k = V 0 k := fun k k0 k1 => bgn_0 k0 k1
  refine mV_is (cut_cut _) ?_ ?_ ?_ ?_ ?_ (fun k k0 k1 => ?_)
  · rw [c 3 (by decide) (by decide), d1]; exact (e0 0 (by decide) (by decide)).symm
  · rw [c 0 (by decide) (by decide), d2]; exact (e0 1 (by decide) (by decide)).symm
  · rw [c 1 (by decide) (by decide), d3]; exact (e0 2 (by decide) (by decide)).symm
  · rw [c 2 (by decide) (by decide), d4]; exact (e0 3 (by decide) (by decide)).symm
  · rw [c 4 (by decide) (by decide), d5]; exact (e0 4 (by decide) (by decide)).symm
  · have k2 : k < V 0 0 := by
      have : bgn V 0 0 = V 0 0 := e0 0 (by decide) (by decide)
      rw [← this]; exact k1
    obtain ⟨g1, g2, g3⟩ := d6 k k0 k2
    rw [c _ (by omega) (by omega), c _ (by omega) (by omega), c _ (by omega) (by omega), c _ (by omega) (by omega), g1, g2, g3, d7 k k0 (by omega), bgn_j (j := 1) (by omega) k0 k2, bgn_j (j := 2) (by omega) k0 k2, bgn_j (j := 3) (by omega) k0 k2, bgn_j (j := 4) (by omega) k0 k2, if_neg (by decide), if_neg (by decide), if_neg (by decide), if_neg (by decide), if_pos rfl, if_neg (by decide), if_pos rfl]
    exact ⟨rfl, rfl, rfl, rfl⟩
theorem MS.sht {σ : ST} {h' : Mem} {f : Int} {V : VW} {p : Nat × (Nat → VW)} (hM : MS h σ) (h6 : h' 373 6 = 0) (h7 : h' 373 7 = f) (ev : mV h' 379 0 = V) (hp : h' 373 17 = (p.1 : Int) ∧ p.1 ≤ 24 ∧ ∀ j : Nat, j < p.1 → mV h' 382 (53 * (j : Int)) = p.2 j) (fr : ∀ c, c = 374 ∨ c = 375 ∨ c = 376 ∨ c = 383 ∨ c = 384 ∨ c = 388 → h' c = h c) (fx : ∀ k : Int, k = 4 ∨ k = 27 → h' 373 k = h 373 k) : MS h' (σ.1, σ.2.1, σ.2.2.1, σ.2.2.2.1, (0, (s_tap σ).2), f, V, p, σ.2.2.2.2.2.2.2.2) := by
  obtain ⟨m1, m2, m3, m4, m5, m6, m7, m8⟩ := hM
  refine ⟨fun i i0 i1 => ?_, ?_, ⟨h6, fun j j0 j1 => absurd (show j < 0 from j1) (by omega)⟩, h7, ev, hp, fun k k0 k1 => ?_, ?_⟩
  · rw [fr 374 (by omega), fr 375 (by omega), fr 376 (by omega)]; exact m1 i i0 i1
  · rw [fx 4 (by omega)]; exact m2
  · rw [fr 384 (by omega), mV_fr (fr 383 (by omega))]; exact m7 k k0 k1
  · rw [fx 27 (by omega), fr 388 (by omega)]; exact m8
end SCF
