section MOE
variable {e q n L : Nat} {h : Mem} {σ : ST}
theorem l_rowZ {Q : Option AV → Tp → Mem → Prop} {r l k : Int} (r0 : 0 ≤ r) (r1 : r < 8) (hk : ∀ hh, (∀ c, c ≠ 376 → hh c = h c) → (∀ j, 0 ≤ j → j < 40 → hh 376 (40 * r + j) = 0) → (∀ j, j < 40 * r ∨ 40 * r + 40 ≤ j → hh 376 j = h 376 j) → AW M_X9_row 0 0 Q 78 [some (vR 373), some (vI r), some (vI l), some (vI k), none] [] (TT e q n L) hh 0 0) :
    ∀ (m i : Nat) (hh : Mem), i + m = 40 → (∀ c, c ≠ 376 → hh c = h c) → (∀ j : Int, 0 ≤ j → j < i → hh 376 (40 * r + j) = 0) → (∀ j : Int, j < 40 * r ∨ 40 * r + 40 ≤ j → hh 376 j = h 376 j) → AW M_X9_row 0 0 Q 52 [some (vR 373), some (vI r), some (vI l), some (vI k), some (vI i)] [] (TT e q n L) hh 0 0 := by
  intro m
  induction m with
  | zero =>
    intro i hh hi g1 g2 g3
    have ei : i = 40 := by omega
    subst ei
    refine aw_iload dX9_row_52 rfl ?_
    refine aw_bipush dX9_row_54 (by decide) (by decide) ?_
    refine aw_icmp_ge 78 dX9_row_56 rfl (fun c56 => ?_) (fun c56 => ?_)
    · exact aw_less (by repeat' (first | exact trivial | exact rfl | apply And.intro)) (hk hh g1 g2 g3)
    · exfalso; omega
  | succ m ih =>
    intro i hh hi g1 g2 g3
    have z := ih (i + 1)
    refine aw_iload dX9_row_52 rfl ?_
    refine aw_bipush dX9_row_54 (by decide) (by decide) ?_
    refine aw_icmp_ge 78 dX9_row_56 rfl (fun c56 => ?_) (fun c56 => ?_)
    · exfalso; omega
    · refine aw_aload_n dX9_row_59 rfl ?_
      refine aw_getR1 dX9_row_60 fx_RX9_16 (by first | rfl | assumption) (by first | rfl | assumption) ?_
      refine aw_bipush dX9_row_63 (by decide) (by decide) ?_
      refine aw_iload_n dX9_row_65 rfl ?_
      refine aw_imul dX9_row_66 (by omega) (by omega) ?_
      refine aw_iload dX9_row_67 rfl ?_
      refine aw_iadd dX9_row_69 (by omega) (by omega) ?_
      refine aw_iconst dX9_row_70 (by decide) (by decide) ?_
      refine aw_iastore dX9_row_71 (by first | rfl | assumption) (by omega) (by omega) (by omega) ?_
      refine aw_iinc (ls' := [_, _, _, _, _]) dX9_row_72 (by decide) rfl (by omega) (by omega) rfl ?_
      refine aw_goto 52 dX9_row_75 rfl ?_
      refine z _ (by omega) (fun c hc => by rw [am_up_ne hc]; exact g1 c hc) (fun j j0 j1 => ?_) (fun j hj => ?_)
      · unfold am_up
        by_cases y : j = i
        · subst y; rw [if_pos ⟨rfl, rfl⟩]
        · rw [if_neg (by omega)]; exact g2 j j0 (by omega)
      · unfold am_up
        rw [if_neg (by omega)]; exact g3 j hj
theorem c_X9_row {r l k : Int} (hM : MS h σ) : Sem M_X9_row [vR 373, vI r, vI l, vI k] (TT e q n L) h 0 0 (PM (sp_row σ r l k) h (TT e q n L)) := by
  unfold sp_row
  have fin : ∀ hh : Mem, 0 ≤ r → r < 8 → 0 ≤ l → l ≤ 2 → (∀ c, c ≠ 376 → hh c = am_up (am_up h 374 r l) 375 r k c) → (∀ j, 0 ≤ j → j < 40 → hh 376 (40 * r + j) = 0) → (∀ j, j < 40 * r ∨ 40 * r + 40 ≤ j → hh 376 j = h 376 j) → MS (am_up hh 373 4 0) (up1 σ.1 r l, up1 σ.2.1 r k, up2 σ.2.2.1 r (fun _ => 0), 0, σ.2.2.2.2) := by
    intro hh r0 r1 l0 l1 g1 g2 g3
    refine hM.row (fun i i0 i1 => ?_) (by simp [am_up]) (fun c hc => by rw [am_up_ne (by omega), g1 c (by omega), am_up_ne (by omega), am_up_ne (by omega)]) (fun k2 hk => by
      unfold am_up
      rw [if_neg (by omega), g1 373 (by decide)]
      unfold am_up
      rw [if_neg (by omega), if_neg (by omega)])
    obtain ⟨y1, y2, y3⟩ := hM.1 i i0 i1
    rw [am_up_ne (by decide), am_up_ne (by decide), am_up_ne (by decide), g1 374 (by decide), g1 375 (by decide), am_up_ne (by decide)]
    unfold up1 up2
    by_cases y : i = r
    · subst y
      simp only [if_true]
      refine ⟨?_, ?_, fun j j0 j1 => g2 j j0 j1⟩
      · rw [if_neg (by omega)]; simp [am_up]
      · simp [am_up]
    · simp only [if_neg y]
      refine ⟨?_, ?_, fun j j0 j1 => by rw [g3 _ (by omega)]; exact y3 j j0 j1⟩
      · rw [← y1]; simp [am_up, y]
      · refine Eq.trans ?_ y2
        unfold am_up; rw [if_neg (by omega), if_neg (by omega)]
  have tl : ∀ hh : Mem, MS (am_up hh 373 4 0) (up1 σ.1 r l, up1 σ.2.1 r k, up2 σ.2.2.1 r (fun _ => 0), 0, σ.2.2.2.2) → (∀ c, c ≠ 376 → hh c = am_up (am_up h 374 r l) 375 r k c) → AW M_X9_row 0 0 (PM (k, (up1 σ.1 r l, up1 σ.2.1 r k, up2 σ.2.2.1 r (fun _ => 0), 0, σ.2.2.2.2)) h (TT e q n L)) 78 [some (vR 373), some (vI r), some (vI l), some (vI k), none] [] (TT e q n L) hh 0 0 := by
    intro hh fi g1
    refine aw_aload_n dX9_row_78 rfl ?_
    refine aw_iload_n dX9_row_79 rfl ?_
    refine aw_v1i dX9_row_80 vl_RX9_75 (by first | rfl | assumption) (Nat.le_of_ble_eq_true rfl) (Nat.le_of_ble_eq_true rfl) (Nat.le_of_ble_eq_true rfl) (Nat.le_refl _) (Nat.le_refl _) (c_X9_well) ?_
    refine aw_ireturn dX9_row_83 rfl (Nat.le_refl _) (Nat.le_refl _) ?_
    exact ⟨rfl, rfl, fi, fun c hc => by rw [am_up_ne (by omega), g1 c (by omega), am_up_ne (by omega), am_up_ne (by omega)]⟩
  refine sem_intro (by decide) rfl (Nat.le_of_ble_eq_true rfl) rfl ?_
  refine aw_iload_n dX9_row_0 rfl ?_
  refine aw_s1i dX9_row_1 sl_RX9_66 (Nat.le_of_ble_eq_true rfl) (Nat.le_of_ble_eq_true rfl) (Nat.le_of_ble_eq_true rfl) (Nat.le_refl _) (Nat.le_refl _) (c_X9_isRow) ?_
  refine aw_ifB_eq 22 dX9_row_4 rfl (fun c4 => ?_) (fun c4 => ?_)
  · refine aw_ldc (n := -1000001) dX9_row_22 kc_RX9_70 (by decide) ?_
    refine aw_ireturn dX9_row_24 rfl (Nat.le_refl _) (Nat.le_refl _) ?_
    rw [if_pos (by omega)]
    exact ⟨rfl, rfl, hM, fun _ _ => rfl⟩
  · refine aw_iload_n dX9_row_7 rfl ?_
    refine aw_iconst dX9_row_8 (by decide) (by decide) ?_
    refine aw_iconst dX9_row_9 (by decide) (by decide) ?_
    refine aw_s3i dX9_row_10 sl_RX9_62 (Nat.le_of_ble_eq_true rfl) (Nat.le_of_ble_eq_true rfl) (Nat.le_of_ble_eq_true rfl) (Nat.le_refl _) (Nat.le_refl _) (c_X9_in) ?_
    refine aw_ifB_eq 22 dX9_row_13 rfl (fun c13 => ?_) (fun c13 => ?_)
    · refine aw_ldc (n := -1000001) dX9_row_22 kc_RX9_70 (by decide) ?_
      refine aw_ireturn dX9_row_24 rfl (Nat.le_refl _) (Nat.le_refl _) ?_
      rw [if_pos (by omega)]
      exact ⟨rfl, rfl, hM, fun _ _ => rfl⟩
    · refine aw_iload_n dX9_row_16 rfl ?_
      refine aw_bipush dX9_row_17 (by decide) (by decide) ?_
      refine aw_icmp_le 25 dX9_row_19 rfl (fun c19 => ?_) (fun c19 => ?_)
      · refine aw_iload_n dX9_row_25 rfl ?_
        refine aw_if_ge 35 dX9_row_26 rfl (fun c26 => ?_) (fun c26 => ?_)
        · refine aw_aload_n dX9_row_35 rfl ?_
          refine aw_getR1 dX9_row_36 fx_RX9_7 (by first | rfl | assumption) (by first | rfl | assumption) ?_
          refine aw_iload_n dX9_row_39 rfl ?_
          refine aw_iload_n dX9_row_40 rfl ?_
          refine aw_iastore dX9_row_41 (by first | rfl | assumption) (by omega) (by omega) (by omega) ?_
          refine aw_aload_n dX9_row_42 rfl ?_
          refine aw_getR1 dX9_row_43 fx_RX9_13 (by first | rfl | assumption) (by first | rfl | assumption) ?_
          refine aw_iload_n dX9_row_46 rfl ?_
          refine aw_iload_n dX9_row_47 rfl ?_
          refine aw_iastore dX9_row_48 (by first | rfl | assumption) (by omega) (by omega) (by omega) ?_
          refine aw_iconst dX9_row_49 (by decide) (by decide) ?_
          refine aw_istore (ls' := [_, _, _, _, _]) dX9_row_50 (by decide) rfl ?_
          rw [if_neg (by omega), if_neg (by omega)]
          refine l_rowZ (h := am_up (am_up h 374 r l) 375 r k) (by omega) (by omega) (fun hh g1 g2 g3 => ?_) 40 0 _ (by omega) (fun _ _ => rfl) (fun j j0 j1 => absurd j1 (by omega)) (fun _ _ => rfl)
          have fi := fin hh (by omega) (by omega) (by omega) (by omega) g1 g2 (fun j hj => by rw [g3 j hj, am_up_ne (by decide), am_up_ne (by decide)])
          exact tl hh fi g1
        · refine aw_aload_n dX9_row_29 rfl ?_
          refine aw_iconst dX9_row_30 (by decide) (by decide) ?_
          refine aw_v1i dX9_row_31 vl_RX9_71 (by first | rfl | assumption) (Nat.le_of_ble_eq_true rfl) (Nat.le_of_ble_eq_true rfl) (Nat.le_of_ble_eq_true rfl) (Nat.le_refl _) (Nat.le_refl _) (c_X9_found (by decide) (by decide)) ?_
          refine aw_ireturn dX9_row_34 rfl (Nat.le_refl _) (Nat.le_refl _) ?_
          rw [if_neg (by omega), if_pos (by omega)]
          exact ⟨rfl, rfl, hM.fnd, fun c hc => am_up_ne (by omega)⟩
      · refine aw_ldc (n := -1000001) dX9_row_22 kc_RX9_70 (by decide) ?_
        refine aw_ireturn dX9_row_24 rfl (Nat.le_refl _) (Nat.le_refl _) ?_
        rw [if_pos (by omega)]
        exact ⟨rfl, rfl, hM, fun _ _ => rfl⟩
end MOE
