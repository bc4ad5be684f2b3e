/-! the reference: a sheet is read -/
def DI (h : Mem) (V : VW) : Prop := (h 380 3 = V 0 0 ∧ h 380 0 = V 0 1 ∧ h 380 1 = V 0 2 ∧ h 380 2 = V 0 3 ∧ h 380 4 = V 0 4) ∧ (∀ k, 0 ≤ k → k < V 0 0 → h 380 (5 + 4 * k) = V 1 k ∧ h 380 (5 + 4 * k + 1) = V 2 k ∧ h 380 (5 + 4 * k + 2) = V 0 3) ∧ (∀ k, 0 ≤ k → k < 12 → h 380 (5 + 4 * k + 3) = 0) ∧ 0 ≤ V 0 0 ∧ V 0 0 ≤ 12
theorem DI.fr {h h' : Mem} {V : VW} (e : h' 380 = h 380) (d : DI h V) : DI h' V := by unfold DI; rw [e]; exact d
def FK3 (h h' : Mem) : Prop := (∀ c, c ≠ 373 → c ≠ 380 → h' c = h c) ∧ ∀ x : Int, x < 7 ∨ 12 < x → h' 373 x = h 373 x
theorem FK3.tr {h h1 h2 : Mem} (x : FK3 h h1) (y : FK3 h1 h2) : FK3 h h2 := ⟨fun c hc hd => (y.1 c hc hd).trans (x.1 c hc hd), fun k hk => (y.2 k hk).trans (x.2 k hk)⟩
theorem FK2.k3 {h h' : Mem} (f : FK2 h h') : FK3 h h' := ⟨fun c hc _ => f.1 c hc, f.2⟩
section SCE
variable {e q n L : Nat} {h : Mem} {b : Int → Int} {l F0 : Int} {V : VW}
def QRI (b : Int → Int) (l F0 : Int) (X : Int × Int) (V' : VW) (h : Mem) (t : Tp) : Option AV → Tp → Mem → Prop := fun v t' h' => v = none ∧ t' = t ∧ RM b l F0 h' X ∧ (X.2 = 0 → DI h' V') ∧ (0 ≤ h' 380 3 ∧ h' 380 3 ≤ 12) ∧ FK3 h h'
set_option maxHeartbeats 2000000 in
theorem t_ri2 {x2 : Int × Int} {kd k0 y nv : Int} {hh : Mem} {V' : VW} (hV' : x2.2 = 0 → V' = addV V kd nv) (hl : l ≤ 80) (hb : ∀ j, 0 ≤ j → j < l → 0 ≤ b j ∧ b j ≤ 255) (hR : RM b l F0 hh x2) (hD : DI hh V) (k5 : 5 ≤ k0) (k49 : k0 ≤ 49) (hx : x2.2 = 0 → y = nv ∧ V 0 0 < 12 ∧ k0 = 5 + 4 * V 0 0) (hf : FK3 h hh) :
    AW M_X9_readsItem 0 0 (QRI b l F0 (sgS b l 59 x2) V' h (TT e q n L)) 88 [some (vR 373), some (vI kd), some (vI k0), some (vI y)] [] (TT e q n L) hh 0 0 := by
  obtain ⟨r1, r2, r3, r4, r5⟩ := id hR
  have ti := (tk_iff (p := x2.1) hb r4).2.1
  have es : ∀ is : Int, (hh 373 11 = 4 ∧ is = 1 ∨ hh 373 11 ≠ 4 ∧ is = 0) → tkS b l is 1 x2 = sgS b l 59 x2 := fun is hi2 => tk_sg (Or.inr (by decide)) (by decide) (fun y => by
    obtain ⟨s1, s2, s3, s4, s5, s6⟩ := r2 y
    rw [s5] at hi2
    rw [← ti]
    omega)
  obtain ⟨⟨d1, d2, d3, d4, d5⟩, d6, d7, d8, d9⟩ := id hD
  refine aw_aload_n dX9_readsItem_88 rfl ?_
  refine aw_aload_n dX9_readsItem_89 rfl ?_
  refine aw_getI dX9_readsItem_90 fx_RX9_104 (by first | rfl | assumption) ?_
  refine aw_iconst dX9_readsItem_93 (by decide) (by decide) ?_
  refine aw_icmp_ne 101 dX9_readsItem_94 rfl (fun c94 => ?_) (fun c94 => ?_)
  · refine aw_iconst dX9_readsItem_101 (by decide) (by decide) ?_
    refine aw_iconst dX9_readsItem_102 (by decide) (by decide) ?_
    refine aw_v2q dX9_readsItem_103 vl_RX9_120 (by first | rfl | assumption) (Nat.le_of_ble_eq_true rfl) (Nat.le_of_ble_eq_true rfl) (Nat.le_of_ble_eq_true rfl) (Nat.le_refl _) (Nat.le_refl _) (c_X9_takes hR (by decide) hl hb) ?_
    intro v t' h1 hq
    obtain ⟨rfl, rfl, f1, f2⟩ := hq
    rw [es _ (by omega)] at f1
    have g8 := f2.1 380 (by decide)
    have w8 : ((sgS b l 59 x2).2 = 0 ∧ h1 373 8 = -1) ∨ ((sgS b l 59 x2).2 ≠ 0 ∧ h1 373 8 = (sgS b l 59 x2).1) := by
      by_cases y : (sgS b l 59 x2).2 = 0
      · exact Or.inl ⟨y, (f1.2.1 y).1⟩
      · exact Or.inr ⟨y, (f1.2.2.1 y).1⟩
    have p0 := f1.2.2.2.1
    refine aw_pop dX9_readsItem_106 rfl ?_
    refine aw_aload_n dX9_readsItem_107 rfl ?_
    refine aw_v0i dX9_readsItem_108 vl_RX9_110 (by first | rfl | assumption) (Nat.le_of_ble_eq_true rfl) (Nat.le_of_ble_eq_true rfl) (Nat.le_of_ble_eq_true rfl) (Nat.le_refl _) (Nat.le_refl _) (c_X9_isWell) ?_
    refine aw_ifB_eq 154 dX9_readsItem_111 rfl (fun c111 => ?_) (fun c111 => ?_)
    · refine aw_return dX9_readsItem_154 rfl (Nat.le_refl _) (Nat.le_refl _) ?_
      exact ⟨rfl, rfl, f1, fun z => by omega, by rw [g8, d1]; exact ⟨d8, d9⟩, hf.tr f2.k3⟩
    · have z0 : (sgS b l 59 x2).2 = 0 := by omega
      obtain ⟨hy, hv, hk⟩ := hx (sgS_0 z0).1
      have hv2 := hV' (sgS_0 z0).1
      subst hy
      subst hv2
      have q2 : am_up (am_up h1 380 k0 kd) 380 (k0 + 1) y 380 2 = V 0 3 := by unfold am_up; rw [if_neg (by omega), if_neg (by omega), g8]; exact d4
      have q3 : am_up (am_up (am_up h1 380 k0 kd) 380 (k0 + 1) y) 380 (k0 + 2) (V 0 3) 380 3 = V 0 0 := by unfold am_up; rw [if_neg (by omega), if_neg (by omega), if_neg (by omega), g8]; exact d1
      refine aw_aload_n dX9_readsItem_114 rfl ?_
      refine aw_getR1 dX9_readsItem_115 fx_RX9_28 (by first | rfl | assumption) (by first | rfl | assumption) ?_
      refine aw_iload_n dX9_readsItem_118 rfl ?_
      refine aw_iload_n dX9_readsItem_119 rfl ?_
      refine aw_iastore dX9_readsItem_120 (by first | rfl | assumption) (by omega) (by omega) (by omega) ?_
      refine aw_aload_n dX9_readsItem_121 rfl ?_
      refine aw_getR1 dX9_readsItem_122 fx_RX9_28 (by first | rfl | assumption) (by first | rfl | assumption) ?_
      refine aw_iload_n dX9_readsItem_125 rfl ?_
      refine aw_iconst dX9_readsItem_126 (by decide) (by decide) ?_
      refine aw_iadd dX9_readsItem_127 (by omega) (by omega) ?_
      refine aw_iload_n dX9_readsItem_128 rfl ?_
      refine aw_iastore dX9_readsItem_129 (by first | rfl | assumption) (by omega) (by omega) (by omega) ?_
      refine aw_aload_n dX9_readsItem_130 rfl ?_
      refine aw_getR1 dX9_readsItem_131 fx_RX9_28 (by first | rfl | assumption) (by first | rfl | assumption) ?_
      refine aw_iload_n dX9_readsItem_134 rfl ?_
      refine aw_iconst dX9_readsItem_135 (by decide) (by decide) ?_
      refine aw_iadd dX9_readsItem_136 (by omega) (by omega) ?_
      refine aw_aload_n dX9_readsItem_137 rfl ?_
      refine aw_getR1 dX9_readsItem_138 fx_RX9_28 (by first | rfl | assumption) (by first | rfl | assumption) ?_
      refine aw_iconst dX9_readsItem_141 (by decide) (by decide) ?_
      refine aw_iaload dX9_readsItem_142 (by first | rfl | assumption) (by omega) (by omega) ?_
      rw [q2]
      refine aw_iastore dX9_readsItem_143 (by first | rfl | assumption) (by omega) (by omega) (by omega) ?_
      refine aw_aload_n dX9_readsItem_144 rfl ?_
      refine aw_getR1 dX9_readsItem_145 fx_RX9_28 (by first | rfl | assumption) (by first | rfl | assumption) ?_
      refine aw_iconst dX9_readsItem_148 (by decide) (by decide) ?_
      refine aw_dup2 dX9_readsItem_149 rfl rfl ?_
      refine aw_iaload dX9_readsItem_150 (by first | rfl | assumption) (by omega) (by omega) ?_
      rw [q3]
      refine aw_iconst dX9_readsItem_151 (by decide) (by decide) ?_
      refine aw_iadd dX9_readsItem_152 (by omega) (by omega) ?_
      refine aw_iastore dX9_readsItem_153 (by first | rfl | assumption) (by omega) (by omega) (by omega) ?_
      refine aw_return dX9_readsItem_154 rfl (Nat.le_refl _) (Nat.le_refl _) ?_
      have ea : ∀ c, c ≠ 380 → am_up (am_up (am_up (am_up h1 380 k0 kd) 380 (k0 + 1) y) 380 (k0 + 2) (V 0 3)) 380 3 (V 0 0 + 1) c = h1 c := fun c hc => by rw [am_up_ne hc, am_up_ne hc, am_up_ne hc, am_up_ne hc]
      have eb : ∀ j : Int, am_up (am_up (am_up (am_up h1 380 k0 kd) 380 (k0 + 1) y) 380 (k0 + 2) (V 0 3)) 380 3 (V 0 0 + 1) 380 j = if j = 3 then V 0 0 + 1 else if j = k0 + 2 then V 0 3 else if j = k0 + 1 then y else if j = k0 then kd else hh 380 j := fun j => by rw [← g8]; simp [am_up]
      have e3 := ea 373 (by decide)
      refine ⟨rfl, rfl, ⟨⟨by rw [e3]; exact f1.1.1, fun j j0 j1 => by rw [ea 378 (by decide)]; exact f1.1.2 j j0 j1⟩, fun z => ?_, fun z => absurd z0 z, f1.2.2.2⟩, fun _ => ⟨?_, fun k q0 q1 => ?_, fun k q0 q1 => ?_, ?_, ?_⟩, ?_, (hf.tr f2.k3).tr ⟨fun c c1 c2 => ea c c2, fun k _ => by rw [e3]⟩⟩
      · unfold SCN; rw [e3]; exact f1.2.1 z
      · rw [eb, eb, eb, eb, eb, addV_00, addV_0k (by decide), addV_0k (by decide), addV_0k (by decide), addV_0k (by decide), if_pos rfl, if_neg (by omega), if_neg (by omega), if_neg (by omega), if_neg (by omega), if_neg (by omega), if_neg (by omega), if_neg (by omega), if_neg (by omega), if_neg (by omega), if_neg (by omega), if_neg (by omega), if_neg (by omega), if_neg (by omega), if_neg (by omega), if_neg (by omega), if_neg (by omega)]
        exact ⟨rfl, d2, d3, d4, d5⟩
      · rw [addV_00] at q1
        rw [eb, eb, eb, addV_1, addV_2, addV_0k (by decide)]
        by_cases w : k = V 0 0
        · rw [if_pos w, if_pos w, if_neg (by omega), if_neg (by omega), if_neg (by omega), if_pos (by omega), if_neg (by omega), if_neg (by omega), if_pos (by omega), if_neg (by omega), if_pos (by omega)]
          exact ⟨rfl, rfl, rfl⟩
        · rw [if_neg w, if_neg w, if_neg (by omega), if_neg (by omega), if_neg (by omega), if_neg (by omega), if_neg (by omega), if_neg (by omega), if_neg (by omega), if_neg (by omega), if_neg (by omega), if_neg (by omega), if_neg (by omega), if_neg (by omega)]
          exact d6 k q0 (by omega)
      · rw [eb, if_neg (by omega), if_neg (by omega), if_neg (by omega), if_neg (by omega)]; exact d7 k q0 q1
      · rw [addV_00]; omega
      · rw [addV_00]; omega
      · rw [eb, if_pos rfl]; omega
  · refine aw_iconst dX9_readsItem_97 (by decide) (by decide) ?_
    refine aw_goto 102 dX9_readsItem_98 rfl ?_
    refine aw_iconst dX9_readsItem_102 (by decide) (by decide) ?_
    refine aw_v2q dX9_readsItem_103 vl_RX9_120 (by first | rfl | assumption) (Nat.le_of_ble_eq_true rfl) (Nat.le_of_ble_eq_true rfl) (Nat.le_of_ble_eq_true rfl) (Nat.le_refl _) (Nat.le_refl _) (c_X9_takes hR (by decide) hl hb) ?_
    intro v t' h1 hq
    obtain ⟨rfl, rfl, f1, f2⟩ := hq
    rw [es _ (by omega)] at f1
    have g8 := f2.1 380 (by decide)
    have w8 : ((sgS b l 59 x2).2 = 0 ∧ h1 373 8 = -1) ∨ ((sgS b l 59 x2).2 ≠ 0 ∧ h1 373 8 = (sgS b l 59 x2).1) := by
      by_cases y : (sgS b l 59 x2).2 = 0
      · exact Or.inl ⟨y, (f1.2.1 y).1⟩
      · exact Or.inr ⟨y, (f1.2.2.1 y).1⟩
    have p0 := f1.2.2.2.1
    refine aw_pop dX9_readsItem_106 rfl ?_
    refine aw_aload_n dX9_readsItem_107 rfl ?_
    refine aw_v0i dX9_readsItem_108 vl_RX9_110 (by first | rfl | assumption) (Nat.le_of_ble_eq_true rfl) (Nat.le_of_ble_eq_true rfl) (Nat.le_of_ble_eq_true rfl) (Nat.le_refl _) (Nat.le_refl _) (c_X9_isWell) ?_
    refine aw_ifB_eq 154 dX9_readsItem_111 rfl (fun c111 => ?_) (fun c111 => ?_)
    · refine aw_return dX9_readsItem_154 rfl (Nat.le_refl _) (Nat.le_refl _) ?_
      exact ⟨rfl, rfl, f1, fun z => by omega, by rw [g8, d1]; exact ⟨d8, d9⟩, hf.tr f2.k3⟩
    · have z0 : (sgS b l 59 x2).2 = 0 := by omega
      obtain ⟨hy, hv, hk⟩ := hx (sgS_0 z0).1
      have hv2 := hV' (sgS_0 z0).1
      subst hy
      subst hv2
      have q2 : am_up (am_up h1 380 k0 kd) 380 (k0 + 1) y 380 2 = V 0 3 := by unfold am_up; rw [if_neg (by omega), if_neg (by omega), g8]; exact d4
      have q3 : am_up (am_up (am_up h1 380 k0 kd) 380 (k0 + 1) y) 380 (k0 + 2) (V 0 3) 380 3 = V 0 0 := by unfold am_up; rw [if_neg (by omega), if_neg (by omega), if_neg (by omega), g8]; exact d1
      refine aw_aload_n dX9_readsItem_114 rfl ?_
      refine aw_getR1 dX9_readsItem_115 fx_RX9_28 (by first | rfl | assumption) (by first | rfl | assumption) ?_
      refine aw_iload_n dX9_readsItem_118 rfl ?_
      refine aw_iload_n dX9_readsItem_119 rfl ?_
      refine aw_iastore dX9_readsItem_120 (by first | rfl | assumption) (by omega) (by omega) (by omega) ?_
      refine aw_aload_n dX9_readsItem_121 rfl ?_
      refine aw_getR1 dX9_readsItem_122 fx_RX9_28 (by first | rfl | assumption) (by first | rfl | assumption) ?_
      refine aw_iload_n dX9_readsItem_125 rfl ?_
      refine aw_iconst dX9_readsItem_126 (by decide) (by decide) ?_
      refine aw_iadd dX9_readsItem_127 (by omega) (by omega) ?_
      refine aw_iload_n dX9_readsItem_128 rfl ?_
      refine aw_iastore dX9_readsItem_129 (by first | rfl | assumption) (by omega) (by omega) (by omega) ?_
      refine aw_aload_n dX9_readsItem_130 rfl ?_
      refine aw_getR1 dX9_readsItem_131 fx_RX9_28 (by first | rfl | assumption) (by first | rfl | assumption) ?_
      refine aw_iload_n dX9_readsItem_134 rfl ?_
      refine aw_iconst dX9_readsItem_135 (by decide) (by decide) ?_
      refine aw_iadd dX9_readsItem_136 (by omega) (by omega) ?_
      refine aw_aload_n dX9_readsItem_137 rfl ?_
      refine aw_getR1 dX9_readsItem_138 fx_RX9_28 (by first | rfl | assumption) (by first | rfl | assumption) ?_
      refine aw_iconst dX9_readsItem_141 (by decide) (by decide) ?_
      refine aw_iaload dX9_readsItem_142 (by first | rfl | assumption) (by omega) (by omega) ?_
      rw [q2]
      refine aw_iastore dX9_readsItem_143 (by first | rfl | assumption) (by omega) (by omega) (by omega) ?_
      refine aw_aload_n dX9_readsItem_144 rfl ?_
      refine aw_getR1 dX9_readsItem_145 fx_RX9_28 (by first | rfl | assumption) (by first | rfl | assumption) ?_
      refine aw_iconst dX9_readsItem_148 (by decide) (by decide) ?_
      refine aw_dup2 dX9_readsItem_149 rfl rfl ?_
      refine aw_iaload dX9_readsItem_150 (by first | rfl | assumption) (by omega) (by omega) ?_
      rw [q3]
      refine aw_iconst dX9_readsItem_151 (by decide) (by decide) ?_
      refine aw_iadd dX9_readsItem_152 (by omega) (by omega) ?_
      refine aw_iastore dX9_readsItem_153 (by first | rfl | assumption) (by omega) (by omega) (by omega) ?_
      refine aw_return dX9_readsItem_154 rfl (Nat.le_refl _) (Nat.le_refl _) ?_
      have ea : ∀ c, c ≠ 380 → am_up (am_up (am_up (am_up h1 380 k0 kd) 380 (k0 + 1) y) 380 (k0 + 2) (V 0 3)) 380 3 (V 0 0 + 1) c = h1 c := fun c hc => by rw [am_up_ne hc, am_up_ne hc, am_up_ne hc, am_up_ne hc]
      have eb : ∀ j : Int, am_up (am_up (am_up (am_up h1 380 k0 kd) 380 (k0 + 1) y) 380 (k0 + 2) (V 0 3)) 380 3 (V 0 0 + 1) 380 j = if j = 3 then V 0 0 + 1 else if j = k0 + 2 then V 0 3 else if j = k0 + 1 then y else if j = k0 then kd else hh 380 j := fun j => by rw [← g8]; simp [am_up]
      have e3 := ea 373 (by decide)
      refine ⟨rfl, rfl, ⟨⟨by rw [e3]; exact f1.1.1, fun j j0 j1 => by rw [ea 378 (by decide)]; exact f1.1.2 j j0 j1⟩, fun z => ?_, fun z => absurd z0 z, f1.2.2.2⟩, fun _ => ⟨?_, fun k q0 q1 => ?_, fun k q0 q1 => ?_, ?_, ?_⟩, ?_, (hf.tr f2.k3).tr ⟨fun c c1 c2 => ea c c2, fun k _ => by rw [e3]⟩⟩
      · unfold SCN; rw [e3]; exact f1.2.1 z
      · rw [eb, eb, eb, eb, eb, addV_00, addV_0k (by decide), addV_0k (by decide), addV_0k (by decide), addV_0k (by decide), if_pos rfl, if_neg (by omega), if_neg (by omega), if_neg (by omega), if_neg (by omega), if_neg (by omega), if_neg (by omega), if_neg (by omega), if_neg (by omega), if_neg (by omega), if_neg (by omega), if_neg (by omega), if_neg (by omega), if_neg (by omega), if_neg (by omega), if_neg (by omega), if_neg (by omega)]
        exact ⟨rfl, d2, d3, d4, d5⟩
      · rw [addV_00] at q1
        rw [eb, eb, eb, addV_1, addV_2, addV_0k (by decide)]
        by_cases w : k = V 0 0
        · rw [if_pos w, if_pos w, if_neg (by omega), if_neg (by omega), if_neg (by omega), if_pos (by omega), if_neg (by omega), if_neg (by omega), if_pos (by omega), if_neg (by omega), if_pos (by omega)]
          exact ⟨rfl, rfl, rfl⟩
        · rw [if_neg w, if_neg w, if_neg (by omega), if_neg (by omega), if_neg (by omega), if_neg (by omega), if_neg (by omega), if_neg (by omega), if_neg (by omega), if_neg (by omega), if_neg (by omega), if_neg (by omega), if_neg (by omega), if_neg (by omega)]
          exact d6 k q0 (by omega)
      · rw [eb, if_neg (by omega), if_neg (by omega), if_neg (by omega), if_neg (by omega)]; exact d7 k q0 q1
      · rw [addV_00]; omega
      · rw [addV_00]; omega
      · rw [eb, if_pos rfl]; omega
theorem t_ri {x1 : Int × Int} {kd k0 : Int} {hh : Mem} {V' : VW} (hV' : x1.2 = 0 → V' = addV V kd (noV b l kd x1)) (hl : l ≤ 80) (hb : ∀ j, 0 ≤ j → j < l → 0 ≤ b j ∧ b j ≤ 255) (hR : RM b l F0 hh x1) (hD : DI hh V) (k5 : 5 ≤ k0) (k49 : k0 ≤ 49) (hx : x1.2 = 0 → V 0 0 < 12 ∧ k0 = 5 + 4 * V 0 0) (hf : FK3 h hh) :
    AW M_X9_readsItem 0 0 (QRI b l F0 (sgS b l 59 (noS b l kd x1)) V' h (TT e q n L)) 56 [some (vR 373), some (vI kd), some (vI k0), none] [] (TT e q n L) hh 0 0 := by
  have e5 : kd = 5 → noS b l kd x1 = x1 ∧ noV b l kd x1 = 0 := fun y => ⟨if_pos y, if_pos y⟩
  have e4 : kd ≠ 5 → kd = 4 → noS b l kd x1 = nmS b l 1 20 x1 := fun y z => (if_neg y).trans (if_pos z)
  have e3 : kd ≠ 5 → kd ≠ 4 → noS b l kd x1 = nmS b l 0 11 x1 := fun y z => (if_neg y).trans (if_neg z)
  have ev : kd ≠ 5 → noV b l kd x1 = nmV b l x1 := fun y => if_neg y
  refine aw_iload_n dX9_readsItem_56 rfl ?_
  refine aw_iconst dX9_readsItem_57 (by decide) (by decide) ?_
  refine aw_icmp_ne 65 dX9_readsItem_58 rfl (fun c58 => ?_) (fun c58 => ?_)
  · refine aw_iload_n dX9_readsItem_65 rfl ?_
    refine aw_iconst dX9_readsItem_66 (by decide) (by decide) ?_
    refine aw_icmp_ne 80 dX9_readsItem_67 rfl (fun c67 => ?_) (fun c67 => ?_)
    · refine aw_aload_n dX9_readsItem_80 rfl ?_
      refine aw_iconst dX9_readsItem_81 (by decide) (by decide) ?_
      refine aw_bipush dX9_readsItem_82 (by decide) (by decide) ?_
      refine aw_v2q dX9_readsItem_84 vl_RX9_124 (by first | rfl | assumption) (Nat.le_of_ble_eq_true rfl) (Nat.le_of_ble_eq_true rfl) (Nat.le_of_ble_eq_true rfl) (Nat.le_refl _) (Nat.le_refl _) (c_X9_figure hR hl hb) ?_
      intro v t' h1 hq
      obtain ⟨y, rfl, g1, rfl, g2, g3⟩ := hq
      refine aw_istore_n (ls' := [_, _, _, _]) dX9_readsItem_87 (by decide) rfl ?_
      first | (rw [(e5 (by omega)).1]; exact t_ri2 (nv := 0) (fun z => by rw [hV' z, (e5 (by omega)).2]) hl hb hR hD k5 k49 (fun z => ⟨rfl, hx z⟩) hf) | (rw [e4 (by omega) (by omega)]; exact t_ri2 (nv := nmV b l x1) (fun z => by rw [hV' (nmS_0 z).1, ev (by omega)]) hl hb g2 (hD.fr (g3.1 380 (by decide))) k5 k49 (fun z => ⟨g1 z, hx (nmS_0 z).1⟩) (hf.tr g3.k3)) | (rw [e3 (by omega) (by omega)]; exact t_ri2 (nv := nmV b l x1) (fun z => by rw [hV' (nmS_0 z).1, ev (by omega)]) hl hb g2 (hD.fr (g3.1 380 (by decide))) k5 k49 (fun z => ⟨g1 z, hx (nmS_0 z).1⟩) (hf.tr g3.k3))
    · refine aw_aload_n dX9_readsItem_70 rfl ?_
      refine aw_iconst dX9_readsItem_71 (by decide) (by decide) ?_
      refine aw_bipush dX9_readsItem_72 (by decide) (by decide) ?_
      refine aw_v2q dX9_readsItem_74 vl_RX9_124 (by first | rfl | assumption) (Nat.le_of_ble_eq_true rfl) (Nat.le_of_ble_eq_true rfl) (Nat.le_of_ble_eq_true rfl) (Nat.le_refl _) (Nat.le_refl _) (c_X9_figure hR hl hb) ?_
      intro v t' h1 hq
      obtain ⟨y, rfl, g1, rfl, g2, g3⟩ := hq
      refine aw_goto 87 dX9_readsItem_77 rfl ?_
      refine aw_istore_n (ls' := [_, _, _, _]) dX9_readsItem_87 (by decide) rfl ?_
      first | (rw [(e5 (by omega)).1]; exact t_ri2 (nv := 0) (fun z => by rw [hV' z, (e5 (by omega)).2]) hl hb hR hD k5 k49 (fun z => ⟨rfl, hx z⟩) hf) | (rw [e4 (by omega) (by omega)]; exact t_ri2 (nv := nmV b l x1) (fun z => by rw [hV' (nmS_0 z).1, ev (by omega)]) hl hb g2 (hD.fr (g3.1 380 (by decide))) k5 k49 (fun z => ⟨g1 z, hx (nmS_0 z).1⟩) (hf.tr g3.k3)) | (rw [e3 (by omega) (by omega)]; exact t_ri2 (nv := nmV b l x1) (fun z => by rw [hV' (nmS_0 z).1, ev (by omega)]) hl hb g2 (hD.fr (g3.1 380 (by decide))) k5 k49 (fun z => ⟨g1 z, hx (nmS_0 z).1⟩) (hf.tr g3.k3))
  · refine aw_iconst dX9_readsItem_61 (by decide) (by decide) ?_
    refine aw_goto 87 dX9_readsItem_62 rfl ?_
    refine aw_istore_n (ls' := [_, _, _, _]) dX9_readsItem_87 (by decide) rfl ?_
    first | (rw [(e5 (by omega)).1]; exact t_ri2 (nv := 0) (fun z => by rw [hV' z, (e5 (by omega)).2]) hl hb hR hD k5 k49 (fun z => ⟨rfl, hx z⟩) hf) | (rw [e4 (by omega) (by omega)]; exact t_ri2 (nv := nmV b l x1) (fun z => by rw [hV' (nmS_0 z).1, ev (by omega)]) hl hb g2 (hD.fr (g3.1 380 (by decide))) k5 k49 (fun z => ⟨g1 z, hx (nmS_0 z).1⟩) (hf.tr g3.k3)) | (rw [e3 (by omega) (by omega)]; exact t_ri2 (nv := nmV b l x1) (fun z => by rw [hV' (nmS_0 z).1, ev (by omega)]) hl hb g2 (hD.fr (g3.1 380 (by decide))) k5 k49 (fun z => ⟨g1 z, hx (nmS_0 z).1⟩) (hf.tr g3.k3))
theorem c_X9_readsItem {p : Int} (hl : l ≤ 80) (hb : ∀ j, 0 ≤ j → j < l → 0 ≤ b j ∧ b j ≤ 255) (hR : RM b l F0 h (p, 0)) (hD : DI h V) (pl : p < l) (hk : kdS (b p) ≠ -1000000) : Sem M_X9_readsItem [vR 373] (TT e q n L) h 0 0 (QRI b l F0 (itS b l ((p, 0), V)).1 (itS b l ((p, 0), V)).2 h (TT e q n L)) := by
  obtain ⟨r1, r2, r3, r4, r5⟩ := id hR
  have r4' : 0 ≤ p := r4
  obtain ⟨s1, s2, s3, s4, s5, s6⟩ := r2 rfl
  have s6' : h 373 12 = vlN b l p := s6
  have kb := kdS_b2 hk
  have ti := tk_iff (p := p) hb r4'
  have nd : ¬ dgtD b l p = true := fun z => by have := of_decide_eq_true z; omega
  have e12 : h 373 12 = b p := by rw [s6']; exact ti.2.2.2.2.1 nd pl
  have ek : kdM (b p) = kdS (b p) := if_neg hk
  have ei : (if p < l then b p else 32) = b p := if_pos pl
  have nx : nxN b l p = p + 1 := by
    unfold nxN cAt
    rw [if_neg nd, if_pos pl, if_neg (by omega)]
  obtain ⟨⟨d1, d2, d3, d4, d5⟩, d6, d7, d8, d9⟩ := id hD
  have i2 : 12 ≤ V 0 0 → itS b l ((p, 0), V) = ((p, 3), V) := fun c => itS_2 (by rw [ei]; exact hk) c
  have i3 : ¬ 12 ≤ V 0 0 → itS b l ((p, 0), V) = (sgS b l 59 (noS b l (kdS (b p)) (p + 1, 0)), addV V (kdS (b p)) (noV b l (kdS (b p)) (p + 1, 0))) := fun c => by
    have := itS_3 (b := b) (l := l) (p := p) (V := V) (by rw [ei]; exact hk) c
    rw [ei] at this
    exact this
  have f3 : sgS b l 59 (noS b l (kdS (b p)) (p, 3)) = (p, 3) := by
    have n3 : (3 : Int) ≠ 0 := by decide
    have nm : ∀ lo hi : Int, nmS b l lo hi (p, 3) = (p, 3) := fun lo hi => by unfold nmS; rw [if_pos n3]
    have e1 : noS b l (kdS (b p)) (p, 3) = (p, 3) := by
      unfold noS
      rw [nm, nm]
      split
      · rfl
      · split <;> rfl
    rw [e1]
    unfold sgS
    rw [if_pos n3]
  refine sem_intro (by decide) rfl (Nat.le_of_ble_eq_true rfl) rfl ?_
  refine aw_aload_n dX9_readsItem_0 rfl ?_
  refine aw_getI dX9_readsItem_1 fx_RX9_101 (by first | rfl | assumption) ?_
  rw [e12]
  refine aw_s1i dX9_readsItem_4 sl_RX9_127 (Nat.le_of_ble_eq_true rfl) (Nat.le_of_ble_eq_true rfl) (Nat.le_of_ble_eq_true rfl) (Nat.le_refl _) (Nat.le_refl _) (c_X9_kindOf) ?_
  rw [ek]
  refine aw_istore_n (ls' := [_, _, _, _]) dX9_readsItem_7 (by decide) rfl ?_
  refine aw_aload_n dX9_readsItem_8 rfl ?_
  refine aw_aload_n dX9_readsItem_9 rfl ?_
  refine aw_getR1 dX9_readsItem_10 fx_RX9_28 (by first | rfl | assumption) (by first | rfl | assumption) ?_
  refine aw_iconst dX9_readsItem_13 (by decide) (by decide) ?_
  refine aw_iaload dX9_readsItem_14 (by first | rfl | assumption) (by omega) (by omega) ?_
  rw [d1]
  refine aw_bipush dX9_readsItem_15 (by decide) (by decide) ?_
  refine aw_icmp_ge 24 dX9_readsItem_17 rfl (fun c17 => ?_) (fun c17 => ?_)
  · refine aw_iconst dX9_readsItem_24 (by decide) (by decide) ?_
    refine aw_iconst dX9_readsItem_25 (by decide) (by decide) ?_
    refine aw_v2q dX9_readsItem_26 vl_RX9_120 (by first | rfl | assumption) (Nat.le_of_ble_eq_true rfl) (Nat.le_of_ble_eq_true rfl) (Nat.le_of_ble_eq_true rfl) (Nat.le_refl _) (Nat.le_refl _) (c_X9_takes hR (by decide) hl hb) ?_
    intro v t' h1 hq
    obtain ⟨rfl, rfl, f1, f2⟩ := hq
    have g8 := f2.1 380 (by decide)
    have d1' : h1 380 3 = V 0 0 := by rw [g8]; exact d1
    refine aw_pop dX9_readsItem_29 rfl ?_
    refine aw_iconst dX9_readsItem_30 (by decide) (by decide) ?_
    refine aw_iconst dX9_readsItem_31 (by decide) (by decide) ?_
    refine aw_aload_n dX9_readsItem_32 rfl ?_
    refine aw_getR1 dX9_readsItem_33 fx_RX9_28 (by first | rfl | assumption) (by first | rfl | assumption) ?_
    refine aw_iconst dX9_readsItem_36 (by decide) (by decide) ?_
    refine aw_iaload dX9_readsItem_37 (by first | rfl | assumption) (by omega) (by omega) ?_
    rw [d1']
    refine aw_bipush dX9_readsItem_38 (by decide) (by decide) ?_
    refine aw_icmp_ge 52 dX9_readsItem_40 rfl (fun c40 => ?_) (fun c40 => ?_)
    · refine aw_iconst dX9_readsItem_52 (by decide) (by decide) ?_
      refine aw_imul dX9_readsItem_53 (by omega) (by omega) ?_
      refine aw_iadd dX9_readsItem_54 (by omega) (by omega) ?_
      refine aw_istore_n (ls' := [_, _, _, _]) dX9_readsItem_55 (by decide) rfl ?_
      first | (exfalso; omega) | (have t1 : tkS b l 0 3 (p, 0) = (p, 3) := rfl; rw [t1] at f1; rw [i2 (by omega)]; have z := t_ri (e := e) (q := q) (n := n) (L := L) (h := h) (kd := kdS (b p)) (k0 := 5 + 4 * 0) (V' := V) (fun z => absurd (show (3 : Int) = 0 from z) (by decide)) hl hb f1 (hD.fr g8) (by omega) (by omega) (fun z => absurd (show (3 : Int) = 0 from z) (by decide)) f2.k3; rw [f3] at z; exact z) | (have t1 : tkS b l 1 3 (p, 0) = (nxN b l p, 0) := rfl; rw [t1, nx] at f1; rw [i3 (by omega)]; exact t_ri (fun _ => rfl) hl hb f1 (hD.fr g8) (by omega) (by omega) (fun _ => ⟨by omega, by omega⟩) f2.k3)
    · refine aw_aload_n dX9_readsItem_43 rfl ?_
      refine aw_getR1 dX9_readsItem_44 fx_RX9_28 (by first | rfl | assumption) (by first | rfl | assumption) ?_
      refine aw_iconst dX9_readsItem_47 (by decide) (by decide) ?_
      refine aw_iaload dX9_readsItem_48 (by first | rfl | assumption) (by omega) (by omega) ?_
      rw [d1']
      refine aw_goto 53 dX9_readsItem_49 rfl ?_
      refine aw_imul dX9_readsItem_53 (by omega) (by omega) ?_
      refine aw_iadd dX9_readsItem_54 (by omega) (by omega) ?_
      refine aw_istore_n (ls' := [_, _, _, _]) dX9_readsItem_55 (by decide) rfl ?_
      first | (exfalso; omega) | (have t1 : tkS b l 0 3 (p, 0) = (p, 3) := rfl; rw [t1] at f1; rw [i2 (by omega)]; have z := t_ri (e := e) (q := q) (n := n) (L := L) (h := h) (kd := kdS (b p)) (k0 := 5 + 4 * 0) (V' := V) (fun z => absurd (show (3 : Int) = 0 from z) (by decide)) hl hb f1 (hD.fr g8) (by omega) (by omega) (fun z => absurd (show (3 : Int) = 0 from z) (by decide)) f2.k3; rw [f3] at z; exact z) | (have t1 : tkS b l 1 3 (p, 0) = (nxN b l p, 0) := rfl; rw [t1, nx] at f1; rw [i3 (by omega)]; exact t_ri (fun _ => rfl) hl hb f1 (hD.fr g8) (by omega) (by omega) (fun _ => ⟨by omega, by omega⟩) f2.k3)
  · refine aw_iconst dX9_readsItem_20 (by decide) (by decide) ?_
    refine aw_goto 25 dX9_readsItem_21 rfl ?_
    refine aw_iconst dX9_readsItem_25 (by decide) (by decide) ?_
    refine aw_v2q dX9_readsItem_26 vl_RX9_120 (by first | rfl | assumption) (Nat.le_of_ble_eq_true rfl) (Nat.le_of_ble_eq_true rfl) (Nat.le_of_ble_eq_true rfl) (Nat.le_refl _) (Nat.le_refl _) (c_X9_takes hR (by decide) hl hb) ?_
    intro v t' h1 hq
    obtain ⟨rfl, rfl, f1, f2⟩ := hq
    have g8 := f2.1 380 (by decide)
    have d1' : h1 380 3 = V 0 0 := by rw [g8]; exact d1
    refine aw_pop dX9_readsItem_29 rfl ?_
    refine aw_iconst dX9_readsItem_30 (by decide) (by decide) ?_
    refine aw_iconst dX9_readsItem_31 (by decide) (by decide) ?_
    refine aw_aload_n dX9_readsItem_32 rfl ?_
    refine aw_getR1 dX9_readsItem_33 fx_RX9_28 (by first | rfl | assumption) (by first | rfl | assumption) ?_
    refine aw_iconst dX9_readsItem_36 (by decide) (by decide) ?_
    refine aw_iaload dX9_readsItem_37 (by first | rfl | assumption) (by omega) (by omega) ?_
    rw [d1']
    refine aw_bipush dX9_readsItem_38 (by decide) (by decide) ?_
    refine aw_icmp_ge 52 dX9_readsItem_40 rfl (fun c40 => ?_) (fun c40 => ?_)
    · refine aw_iconst dX9_readsItem_52 (by decide) (by decide) ?_
      refine aw_imul dX9_readsItem_53 (by omega) (by omega) ?_
      refine aw_iadd dX9_readsItem_54 (by omega) (by omega) ?_
      refine aw_istore_n (ls' := [_, _, _, _]) dX9_readsItem_55 (by decide) rfl ?_
      first | (exfalso; omega) | (have t1 : tkS b l 0 3 (p, 0) = (p, 3) := rfl; rw [t1] at f1; rw [i2 (by omega)]; have z := t_ri (e := e) (q := q) (n := n) (L := L) (h := h) (kd := kdS (b p)) (k0 := 5 + 4 * 0) (V' := V) (fun z => absurd (show (3 : Int) = 0 from z) (by decide)) hl hb f1 (hD.fr g8) (by omega) (by omega) (fun z => absurd (show (3 : Int) = 0 from z) (by decide)) f2.k3; rw [f3] at z; exact z) | (have t1 : tkS b l 1 3 (p, 0) = (nxN b l p, 0) := rfl; rw [t1, nx] at f1; rw [i3 (by omega)]; exact t_ri (fun _ => rfl) hl hb f1 (hD.fr g8) (by omega) (by omega) (fun _ => ⟨by omega, by omega⟩) f2.k3)
    · refine aw_aload_n dX9_readsItem_43 rfl ?_
      refine aw_getR1 dX9_readsItem_44 fx_RX9_28 (by first | rfl | assumption) (by first | rfl | assumption) ?_
      refine aw_iconst dX9_readsItem_47 (by decide) (by decide) ?_
      refine aw_iaload dX9_readsItem_48 (by first | rfl | assumption) (by omega) (by omega) ?_
      rw [d1']
      refine aw_goto 53 dX9_readsItem_49 rfl ?_
      refine aw_imul dX9_readsItem_53 (by omega) (by omega) ?_
      refine aw_iadd dX9_readsItem_54 (by omega) (by omega) ?_
      refine aw_istore_n (ls' := [_, _, _, _]) dX9_readsItem_55 (by decide) rfl ?_
      first | (exfalso; omega) | (have t1 : tkS b l 0 3 (p, 0) = (p, 3) := rfl; rw [t1] at f1; rw [i2 (by omega)]; have z := t_ri (e := e) (q := q) (n := n) (L := L) (h := h) (kd := kdS (b p)) (k0 := 5 + 4 * 0) (V' := V) (fun z => absurd (show (3 : Int) = 0 from z) (by decide)) hl hb f1 (hD.fr g8) (by omega) (by omega) (fun z => absurd (show (3 : Int) = 0 from z) (by decide)) f2.k3; rw [f3] at z; exact z) | (have t1 : tkS b l 1 3 (p, 0) = (nxN b l p, 0) := rfl; rw [t1, nx] at f1; rw [i3 (by omega)]; exact t_ri (fun _ => rfl) hl hb f1 (hD.fr g8) (by omega) (by omega) (fun _ => ⟨by omega, by omega⟩) f2.k3)
end SCE
