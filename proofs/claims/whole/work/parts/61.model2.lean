section MO2
variable {t : Tp} {h : Mem} {V : VW} {a : Nat}
theorem mA_c (e : mV h a 0 = V) : h a 3 = V 0 0 := by rw [← e, mVc]; rfl
theorem mA_w (e : mV h a 0 = V) : h a 0 = V 0 1 := by rw [← e, mVw]
theorem mA_l (e : mV h a 0 = V) : h a 1 = V 0 2 := by rw [← e, mVl]; rfl
theorem mA_f (e : mV h a 0 = V) : h a 2 = V 0 3 := by rw [← e, mVf]; rfl
theorem mA_r (e : mV h a 0 = V) : h a 4 = V 0 4 := by rw [← e, mVr]; rfl
theorem mA1 {k : Int} (e : mV h a 0 = V) (h0 : 0 ≤ k) (h1 : k < V 0 0) : h a (5 + 4 * k) = V 1 k := by
  have ec := mA_c e
  rw [← e, mV1 h0 (by rw [show (0 : Int) + 3 = 3 from rfl, ec]; exact h1)]
  exact congrArg (h a) (by omega)
theorem mA2 {k : Int} (e : mV h a 0 = V) (h0 : 0 ≤ k) (h1 : k < V 0 0) : h a (5 + 4 * k + 1) = V 2 k := by
  have ec := mA_c e
  rw [← e, mV2 h0 (by rw [show (0 : Int) + 3 = 3 from rfl, ec]; exact h1)]
  exact congrArg (h a) (by omega)
theorem mA3 {k : Int} (e : mV h a 0 = V) (h0 : 0 ≤ k) (h1 : k < V 0 0) : h a (5 + 4 * k + 2) = V 3 k := by
  have ec := mA_c e
  rw [← e, mV3 h0 (by rw [show (0 : Int) + 3 = 3 from rfl, ec]; exact h1)]
  exact congrArg (h a) (by omega)
theorem mA4 {k : Int} (e : mV h a 0 = V) (h0 : 0 ≤ k) (h1 : k < V 0 0) : h a (5 + 4 * k + 3) = V 4 k := by
  have ec := mA_c e
  rw [← e, mV4 h0 (by rw [show (0 : Int) + 3 = 3 from rfl, ec]; exact h1)]
  exact congrArg (h a) (by omega)
theorem l_copies {Q : Option AV → Tp → Mem → Prop} {x y Nx Ny : Nat} {o p : Int} (sx : t.2.1 x = (20, Nx)) (sy : t.2.1 y = (20, Ny)) (hy : y < 1000000) (o0 : 0 ≤ o) (o1 : o + 53 ≤ Nx) (p0 : 0 ≤ p) (p1 : p + 53 ≤ Ny) (bx : Nx < 100000) (by0 : Ny < 100000) (ne : x ≠ y)
    (hk : ∀ hh, (∀ k, 0 ≤ k → k < 53 → hh y (p + k) = h x (o + k)) → (∀ k, k < p ∨ p + 53 ≤ k → hh y k = h y k) → (∀ c, c ≠ y → hh c = h c) → Q none t hh) :
    ∀ (m i : Nat) (hh : Mem), i + m = 53 → (∀ k : Int, 0 ≤ k → k < i → hh y (p + k) = h x (o + k)) → (∀ k : Int, k < p ∨ p + i ≤ k → hh y k = h y k) → (∀ c, c ≠ y → hh c = h c) → AW M_X9_copies 0 0 Q 3 [some (vR x), some (vI o), some (vR y), some (vI p), some (vI i)] [] t hh 0 0 := by
  intro m
  induction m with
  | zero =>
    intro i hh hi g1 g2 g3
    have ei : i = 53 := by omega
    subst ei
    refine aw_iload dX9_copies_3 rfl ?_
    refine aw_bipush dX9_copies_5 (by decide) (by decide) ?_
    refine aw_icmp_ge 28 dX9_copies_7 rfl (fun c7 => ?_) (fun c7 => ?_)
    · refine aw_return dX9_copies_28 rfl (Nat.le_refl _) (Nat.le_refl _) ?_
      exact hk hh g1 g2 g3
    · exfalso; omega
  | succ m ih =>
    intro i hh hi g1 g2 g3
    have z := ih (i + 1)
    have ex : hh x = h x := g3 x ne
    refine aw_iload dX9_copies_3 rfl ?_
    refine aw_bipush dX9_copies_5 (by decide) (by decide) ?_
    refine aw_icmp_ge 28 dX9_copies_7 rfl (fun c7 => ?_) (fun c7 => ?_)
    · exfalso; omega
    · refine aw_aload_n dX9_copies_10 rfl ?_
      refine aw_iload_n dX9_copies_11 rfl ?_
      refine aw_iload dX9_copies_12 rfl ?_
      refine aw_iadd dX9_copies_14 (by omega) (by omega) ?_
      refine aw_aload_n dX9_copies_15 rfl ?_
      refine aw_iload_n dX9_copies_16 rfl ?_
      refine aw_iload dX9_copies_17 rfl ?_
      refine aw_iadd dX9_copies_19 (by omega) (by omega) ?_
      refine aw_iaload dX9_copies_20 (by first | rfl | assumption) (by omega) (by omega) ?_
      refine aw_iastore dX9_copies_21 (by first | rfl | assumption) (by omega) (by omega) (by omega) ?_
      refine aw_iinc (ls' := [_, _, _, _, _]) dX9_copies_22 (by decide) rfl (by omega) (by omega) rfl ?_
      refine aw_goto 3 dX9_copies_25 rfl ?_
      refine z _ (by omega) (fun k k0 k1 => ?_) (fun k hk2 => ?_) (fun c hc => by rw [am_up_ne hc]; exact g3 c hc)
      · unfold am_up
        by_cases e : k = i
        · subst e
          rw [if_pos ⟨rfl, rfl⟩, ex]
        · rw [if_neg (by omega)]
          exact g1 k k0 (by omega)
      · unfold am_up
        rw [if_neg (by omega)]
        exact g2 k (by omega)
theorem c_X9_copies {x y Nx Ny : Nat} {o p : Int} (sx : t.2.1 x = (20, Nx)) (sy : t.2.1 y = (20, Ny)) (hy : y < 1000000) (o0 : 0 ≤ o) (o1 : o + 53 ≤ Nx) (p0 : 0 ≤ p) (p1 : p + 53 ≤ Ny) (bx : Nx < 100000) (by0 : Ny < 100000) (ne : x ≠ y) : Sem M_X9_copies [vR x, vI o, vR y, vI p] t h 0 0 (fun v t' h' => v = none ∧ t' = t ∧ (∀ k, 0 ≤ k → k < 53 → h' y (p + k) = h x (o + k)) ∧ (∀ k, k < p ∨ p + 53 ≤ k → h' y k = h y k) ∧ ∀ c, c ≠ y → h' c = h c) := by
  refine sem_intro (by decide) rfl (Nat.le_of_ble_eq_true rfl) rfl ?_
  refine aw_iconst dX9_copies_0 (by decide) (by decide) ?_
  refine aw_istore (ls' := [_, _, _, _, _]) dX9_copies_1 (by decide) rfl ?_
  exact l_copies sx sy hy o0 o1 p0 p1 bx by0 ne (fun hh g1 g2 g3 => ⟨rfl, rfl, g1, g2, g3⟩) 53 0 h (by omega) (fun k k0 k1 => absurd k1 (by omega)) (fun _ _ => rfl) (fun _ _ => rfl)
theorem c_X9_wide {k : Int} (sa : t.2.1 a = (20, 53)) (e : mV h a 0 = V) (hV : WFv V) (h0 : 0 ≤ k) (h1 : k < V 0 0) : SemE M_X9_wide [vR a, vI k] t h (some (vI (wd V k))) t h := by
  have v2 := hV.2.1
  obtain ⟨i1, i2, i3, i4, i5, i6, i7, i8⟩ := hV.2.2.2.2.2.2.2.2 k h0 h1
  have e1 := mA1 e h0 h1
  have e2 := mA2 e h0 h1
  have e4 := mA4 e h0 h1
  have pg : V 1 k ≤ 3 → h a (5 + 4 * V 2 k + 2) = V 3 (V 2 k) ∧ 1 ≤ V 3 (V 2 k) ∧ V 3 (V 2 k) ≤ 98 := fun z => by
    obtain ⟨j0, j1⟩ := i3 z
    obtain ⟨-, -, -, -, j5, j6, -, -⟩ := hV.2.2.2.2.2.2.2.2 (V 2 k) j0 j1
    exact ⟨mA3 e j0 j1, j5, j6⟩
  unfold wd wdg
  refine sem_intro (by decide) rfl (Nat.le_of_ble_eq_true rfl) rfl ?_
  refine aw_iconst dX9_wide_0 (by decide) (by decide) ?_
  refine aw_iconst dX9_wide_1 (by decide) (by decide) ?_
  refine aw_iload_n dX9_wide_2 rfl ?_
  refine aw_imul dX9_wide_3 (by omega) (by omega) ?_
  refine aw_iadd dX9_wide_4 (by omega) (by omega) ?_
  refine aw_istore_n (ls' := [_, _, _, _]) dX9_wide_5 (by decide) rfl ?_
  refine aw_aload_n dX9_wide_6 rfl ?_
  refine aw_iload_n dX9_wide_7 rfl ?_
  refine aw_iaload dX9_wide_8 (by first | rfl | assumption) (by omega) (by omega) ?_
  rw [e1]
  refine aw_iconst dX9_wide_9 (by decide) (by decide) ?_
  refine aw_icmp_le 30 dX9_wide_10 rfl (fun c10 => ?_) (fun c10 => ?_)
  · obtain ⟨g1, g2, g3⟩ := pg (by omega)
    have i3' := i3 (by omega)
    refine aw_aload_n dX9_wide_30 rfl ?_
    refine aw_iload_n dX9_wide_31 rfl ?_
    refine aw_iaload dX9_wide_32 (by first | rfl | assumption) (by omega) (by omega) ?_
    rw [e1]
    refine aw_aload_n dX9_wide_33 rfl ?_
    refine aw_iconst dX9_wide_34 (by decide) (by decide) ?_
    refine aw_iconst dX9_wide_35 (by decide) (by decide) ?_
    refine aw_aload_n dX9_wide_36 rfl ?_
    refine aw_iload_n dX9_wide_37 rfl ?_
    refine aw_iconst dX9_wide_38 (by decide) (by decide) ?_
    refine aw_iadd dX9_wide_39 (by omega) (by omega) ?_
    refine aw_iaload dX9_wide_40 (by first | rfl | assumption) (by omega) (by omega) ?_
    rw [e2]
    refine aw_imul dX9_wide_41 (by omega) (by omega) ?_
    refine aw_iadd dX9_wide_42 (by omega) (by omega) ?_
    refine aw_iconst dX9_wide_43 (by decide) (by decide) ?_
    refine aw_iadd dX9_wide_44 (by omega) (by omega) ?_
    refine aw_iaload dX9_wide_45 (by first | rfl | assumption) (by omega) (by omega) ?_
    rw [g1]
    refine aw_s2i dX9_wide_46 sl_RX9_155 (Nat.le_of_ble_eq_true rfl) (Nat.le_of_ble_eq_true rfl) (Nat.le_of_ble_eq_true rfl) (Nat.le_refl _) (Nat.le_refl _) (c_X9_signs (by omega) (by omega)) ?_
    refine aw_istore_n (ls' := [_, _, _, _]) dX9_wide_49 (by decide) rfl ?_
    refine aw_iload_n dX9_wide_50 rfl ?_
    refine aw_aload_n dX9_wide_51 rfl ?_
    refine aw_iload_n dX9_wide_52 rfl ?_
    refine aw_iconst dX9_wide_53 (by decide) (by decide) ?_
    refine aw_iadd dX9_wide_54 (by omega) (by omega) ?_
    refine aw_iaload dX9_wide_55 (by first | rfl | assumption) (by omega) (by omega) ?_
    rw [e4]
    refine aw_icmp_le 63 dX9_wide_56 rfl (fun c56 => ?_) (fun c56 => ?_)
    · refine aw_aload_n dX9_wide_63 rfl ?_
      refine aw_iload_n dX9_wide_64 rfl ?_
      refine aw_iconst dX9_wide_65 (by decide) (by decide) ?_
      refine aw_iadd dX9_wide_66 (by omega) (by omega) ?_
      refine aw_iaload dX9_wide_67 (by first | rfl | assumption) (by omega) (by omega) ?_
      try rw [e4]
      refine aw_ireturn dX9_wide_68 rfl (Nat.le_refl _) (Nat.le_refl _) ?_
      rw [if_neg (by omega), if_neg (by omega)]
      first | (rw [if_pos (by omega)]; exact ⟨rfl, rfl, rfl⟩) | (rw [if_neg (by omega)]; exact ⟨rfl, rfl, rfl⟩)
    · refine aw_iload_n dX9_wide_59 rfl ?_
      refine aw_goto 68 dX9_wide_60 rfl ?_
      try rw [e4]
      refine aw_ireturn dX9_wide_68 rfl (Nat.le_refl _) (Nat.le_refl _) ?_
      rw [if_neg (by omega), if_neg (by omega)]
      first | (rw [if_pos (by omega)]; exact ⟨rfl, rfl, rfl⟩) | (rw [if_neg (by omega)]; exact ⟨rfl, rfl, rfl⟩)
  · refine aw_aload_n dX9_wide_13 rfl ?_
    refine aw_iload_n dX9_wide_14 rfl ?_
    refine aw_iaload dX9_wide_15 (by first | rfl | assumption) (by omega) (by omega) ?_
    rw [e1]
    refine aw_iconst dX9_wide_16 (by decide) (by decide) ?_
    refine aw_icmp_ne 28 dX9_wide_17 rfl (fun c17 => ?_) (fun c17 => ?_)
    · refine aw_iconst dX9_wide_28 (by decide) (by decide) ?_
      refine aw_ireturn dX9_wide_29 rfl (Nat.le_refl _) (Nat.le_refl _) ?_
      first | (rw [if_pos (by omega)]; exact ⟨rfl, rfl, rfl⟩) | (rw [if_neg (by omega), if_pos (by omega)]; exact ⟨rfl, rfl, rfl⟩)
    · refine aw_aload_n dX9_wide_20 rfl ?_
      refine aw_iload_n dX9_wide_21 rfl ?_
      refine aw_iconst dX9_wide_22 (by decide) (by decide) ?_
      refine aw_iadd dX9_wide_23 (by omega) (by omega) ?_
      refine aw_iaload dX9_wide_24 (by first | rfl | assumption) (by omega) (by omega) ?_
      rw [e2]
      refine aw_goto 29 dX9_wide_25 rfl ?_
      refine aw_ireturn dX9_wide_29 rfl (Nat.le_refl _) (Nat.le_refl _) ?_
      first | (rw [if_pos (by omega)]; exact ⟨rfl, rfl, rfl⟩) | (rw [if_neg (by omega), if_pos (by omega)]; exact ⟨rfl, rfl, rfl⟩)
end MO2
