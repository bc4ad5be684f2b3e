def RV (h : Mem) (V : VW) : Prop := (∀ k, 0 ≤ k → k < 5 → h 21 k = V 0 k) ∧ ∀ k, 0 ≤ k → k < V 0 0 → h 22 k = V 1 k ∧ h 23 k = V 2 k
theorem kdS_b {x : Int} : kdS x = -1000000 ∨ (1 ≤ kdS x ∧ kdS x ≤ 5) := by
  unfold kdS
  repeat' (first | omega | split)
section REB
variable {e n L : Nat} {h : Mem} {b : Int → Int} {l : Int} {V : VW}
set_option maxHeartbeats 4000000 in
theorem c_X4_readItem {p : Int} (hR : RD b l h (p, 0)) (hV : RV h V) (hb : ∀ j, 0 ≤ j → j < l → 0 ≤ b j ∧ b j ≤ 255) (p0 : 0 ≤ p) (p1 : p ≤ l) (hl : l ≤ 80) (v0 : 0 ≤ V 0 0) (v1 : V 0 0 ≤ 12) : Sem M_X4_readItem [vR 14, vR 21] (TT e 13 n L) h 0 0 (fun v t' h' => v = none ∧ t' = TT e 13 n L ∧ RD b l h' (itS b l ((p, 0), V)).1 ∧ RV h' (itS b l ((p, 0), V)).2 ∧ ∀ c, c ≠ 14 → c < 21 ∨ 23 < c → h' c = h c) := by
  obtain ⟨r1, r2, r3, r4⟩ := id hR
  obtain ⟨w1, w2⟩ := id hV
  have w0 := w1 0 (by decide) (by decide)
  have kb := kdS_b (x := if p < l then b p else 32)
  have kp : ∀ y : Int, RD b l (am_up h 14 3 y) (p, y) := fun y => ⟨by simp [am_up]; exact r1, by simp [am_up]; exact r2, by simp [am_up], fun j j0 j1 => by rw [am_up_ne (by decide)]; exact r4 j j0 j1⟩
  have kv : ∀ y : Int, RV (am_up h 14 3 y) V := fun y => ⟨fun k k0 k1 => by rw [am_up_ne (by decide)]; exact w1 k k0 k1, fun k k0 k1 => by rw [am_up_ne (by decide), am_up_ne (by decide)]; exact w2 k k0 k1⟩
  unfold itS
  simp only
  generalize hkd : kdS (if p < l then b p else 32) = kd at kb ⊢
  refine sem_intro (by decide) rfl (Nat.le_of_ble_eq_true rfl) rfl ?_
  refine aw_aload_n dX4_readItem_0 rfl ?_
  refine aw_getI dX4_readItem_1 fx_RX4_25 (by first | rfl | assumption) ?_
  refine aw_aload_n dX4_readItem_4 rfl ?_
  refine aw_getI dX4_readItem_5 fx_RX4_21 (by first | rfl | assumption) ?_
  rw [r1, r2]
  refine aw_icmp_ge 23 dX4_readItem_8 rfl (fun c8 => ?_) (fun c8 => ?_)
  · refine aw_bipush dX4_readItem_23 (by decide) (by decide) ?_
    refine aw_s1i dX4_readItem_25 sl_RX4_68 (Nat.le_of_ble_eq_true rfl) (Nat.le_of_ble_eq_true rfl) (Nat.le_of_ble_eq_true rfl) (Nat.le_refl _) (Nat.le_refl _) (c_X4_kindOf) ?_
    first | rw [show kdS (b p) = kd from by rw [← hkd, if_pos (by omega)]] | rw [show kdS 32 = kd from by rw [← hkd, if_neg (by omega)]]
    refine aw_istore_n (ls' := [_, _, _]) dX4_readItem_28 (by decide) rfl ?_
    refine aw_iload_n dX4_readItem_29 rfl ?_
    refine aw_ldc (n := -1000000) dX4_readItem_30 kc_RX4_72 (by decide) ?_
    refine aw_icmp_ne 41 dX4_readItem_32 rfl (fun c32 => ?_) (fun c32 => ?_)
    · refine aw_aload_n dX4_readItem_41 rfl ?_
      refine aw_getI dX4_readItem_42 fx_RX4_31 (by first | rfl | assumption) ?_
      refine aw_bipush dX4_readItem_45 (by decide) (by decide) ?_
      refine aw_icmp_lt 56 dX4_readItem_47 rfl (fun c47 => ?_) (fun c47 => ?_)
      · rw [if_neg (by omega), if_neg (by omega)]
        have pl : p < l := by
          by_cases y : p < l
          · exact y
          · rw [if_neg y] at hkd
            exact absurd hkd.symm c32
        refine aw_aload_n dX4_readItem_56 rfl ?_
        refine aw_dup dX4_readItem_57 rfl ?_
        refine aw_getI dX4_readItem_58 fx_RX4_25 (by first | rfl | assumption) ?_
        refine aw_iconst dX4_readItem_61 (by decide) (by decide) ?_
        refine aw_iadd dX4_readItem_62 (by omega) (by omega) ?_
        refine aw_putI dX4_readItem_63 fp_RX4_25 (by first | rfl | assumption) ?_
        obtain ⟨g0, hg0⟩ : ∃ g, g = am_up h 14 2 (h 14 2 + 1) := ⟨_, rfl⟩
        rw [← hg0]
        have f0 : ∀ c, c ≠ 14 → g0 c = h c := fun c hc => by rw [hg0]; exact am_up_ne hc
        have R0 : RD b l g0 (p + 1, 0) := ⟨by rw [hg0]; simp [am_up]; exact r1, by rw [hg0]; simp [am_up]; exact r2, by rw [hg0]; simp [am_up]; exact r3, fun j j0 j1 => by rw [f0 13 (by decide)]; exact r4 j j0 j1⟩
        refine aw_aload_n dX4_readItem_66 rfl ?_
        refine aw_getR1 dX4_readItem_67 fx_RX4_73 (by first | rfl | assumption) (by first | rfl | assumption) ?_
        refine aw_aload_n dX4_readItem_70 rfl ?_
        refine aw_getI dX4_readItem_71 fx_RX4_31 (by first | rfl | assumption) ?_
        rw [f0 21 (by decide), w0]
        refine aw_iload_n dX4_readItem_74 rfl ?_
        refine aw_iastore dX4_readItem_75 (by first | rfl | assumption) (by omega) (by omega) (by omega) ?_
        obtain ⟨g1, hg1⟩ : ∃ g, g = am_up g0 (21 + 1) (V 0 0) kd := ⟨_, rfl⟩
        rw [← hg1]
        have f1 : ∀ c, c ≠ 22 → g1 c = g0 c := fun c hc => by rw [hg1]; exact am_up_ne hc
        have R1 : RD b l g1 (p + 1, 0) := ⟨by rw [f1 14 (by decide)]; exact R0.1, by rw [f1 14 (by decide)]; exact R0.2.1, by rw [f1 14 (by decide)]; exact R0.2.2.1, fun j j0 j1 => by rw [f1 13 (by decide)]; exact R0.2.2.2 j j0 j1⟩
        refine aw_aload_n dX4_readItem_76 rfl ?_
        refine aw_getR1 dX4_readItem_77 fx_RX4_76 (by first | rfl | assumption) (by first | rfl | assumption) ?_
        refine aw_aload_n dX4_readItem_80 rfl ?_
        refine aw_getI dX4_readItem_81 fx_RX4_31 (by first | rfl | assumption) ?_
        rw [f1 21 (by decide), f0 21 (by decide), w0]
        refine aw_aload_n dX4_readItem_84 rfl ?_
        refine aw_iload_n dX4_readItem_85 rfl ?_
        refine aw_v1q dX4_readItem_86 vl_RX4_79 (by first | rfl | assumption) (Nat.le_of_ble_eq_true rfl) (Nat.le_of_ble_eq_true rfl) (Nat.le_of_ble_eq_true rfl) (Nat.le_refl _) (Nat.le_refl _) (c_X4_readNumberOf R1 (by show 0 ≤ p + 1; omega) (by show p + 1 ≤ l; omega) hl) ?_
        intro v t' g2 hq
        obtain ⟨rfl, rfl, R2, f2⟩ := hq
        have nb := noS_b (b := b) (kd := kd) (x := (p + 1, 0)) (l := l) (by show 0 ≤ p + 1; omega) (by show p + 1 ≤ l; omega)
        refine aw_iastore dX4_readItem_89 (by first | rfl | assumption) (by omega) (by omega) (by omega) ?_
        obtain ⟨g3, hg3⟩ : ∃ g, g = am_up g2 (21 + 2) (V 0 0) (noV b l kd (p + 1, 0)) := ⟨_, rfl⟩
        rw [← hg3]
        have f3 : ∀ c, c ≠ 23 → g3 c = g2 c := fun c hc => by rw [hg3]; exact am_up_ne hc
        refine aw_aload_n dX4_readItem_90 rfl ?_
        refine aw_dup dX4_readItem_91 rfl ?_
        refine aw_getI dX4_readItem_92 fx_RX4_31 (by first | rfl | assumption) ?_
        rw [f3 21 (by decide), f2 21 (by decide), f1 21 (by decide), f0 21 (by decide), w0]
        refine aw_iconst dX4_readItem_95 (by decide) (by decide) ?_
        refine aw_iadd dX4_readItem_96 (by omega) (by omega) ?_
        refine aw_putI dX4_readItem_97 fp_RX4_31 (by first | rfl | assumption) ?_
        obtain ⟨g4, hg4⟩ : ∃ g, g = am_up g3 21 0 (V 0 0 + 1) := ⟨_, rfl⟩
        rw [← hg4]
        have f4 : ∀ c, c ≠ 21 → g4 c = g3 c := fun c hc => by rw [hg4]; exact am_up_ne hc
        have R4 : RD b l g4 (noS b l kd (p + 1, 0)) := ⟨by rw [f4 14 (by decide), f3 14 (by decide)]; exact R2.1, by rw [f4 14 (by decide), f3 14 (by decide)]; exact R2.2.1, by rw [f4 14 (by decide), f3 14 (by decide)]; exact R2.2.2.1, fun j j0 j1 => by rw [f4 13 (by decide), f3 13 (by decide)]; exact R2.2.2.2 j j0 j1⟩
        refine aw_aload_n dX4_readItem_100 rfl ?_
        refine aw_bipush dX4_readItem_101 (by decide) (by decide) ?_
        refine aw_v1q dX4_readItem_103 vl_RX4_52 (by first | rfl | assumption) (Nat.le_of_ble_eq_true rfl) (Nat.le_of_ble_eq_true rfl) (Nat.le_of_ble_eq_true rfl) (Nat.le_refl _) (Nat.le_refl _) (c_X4_readSign R4 hb nb.1 nb.2 hl) ?_
        intro v t' g5 hq
        obtain ⟨rfl, rfl, R5, f5⟩ := hq
        refine aw_return dX4_readItem_106 rfl (Nat.le_refl _) (Nat.le_refl _) ?_
        refine ⟨rfl, rfl, R5, ⟨fun k k0 k1 => ?_, fun k k0 k1 => ?_⟩, fun c hc1 hc2 => by rw [f5 c hc1, f4 c (by omega), f3 c (by omega), f2 c hc1, f1 c (by omega), f0 c hc1]⟩
        · rw [f5 21 (by decide), hg4]
          unfold am_up setV
          by_cases y : k = 0
          · subst y; simp
          · simp [y]
            rw [f3 21 (by decide), f2 21 (by decide), f1 21 (by decide), f0 21 (by decide)]
            exact w1 k k0 k1
        · have k2 : k < V 0 0 + 1 := by
            revert k1
            unfold setV
            simp
          rw [f5 22 (by decide), f5 23 (by decide), f4 22 (by decide), f4 23 (by decide), f3 22 (by decide), f2 22 (by decide), hg1, hg3]
          unfold am_up setV
          by_cases y : k = V 0 0
          · subst y; simp
          · simp [y]
            rw [f2 23 (by decide), f1 23 (by decide), f0 23 (by decide), f0 22 (by decide)]
            exact w2 k k0 (by omega)
      · refine aw_aload_n dX4_readItem_50 rfl ?_
        refine aw_iconst dX4_readItem_51 (by decide) (by decide) ?_
        refine aw_putI dX4_readItem_52 fp_RX4_28 (by first | rfl | assumption) ?_
        refine aw_return dX4_readItem_55 rfl (Nat.le_refl _) (Nat.le_refl _) ?_
        rw [if_neg (by omega), if_pos (by omega)]
        exact ⟨rfl, rfl, kp 3, kv 3, fun c hc _ => am_up_ne hc⟩
    · refine aw_aload_n dX4_readItem_35 rfl ?_
      refine aw_iconst dX4_readItem_36 (by decide) (by decide) ?_
      refine aw_putI dX4_readItem_37 fp_RX4_28 (by first | rfl | assumption) ?_
      refine aw_return dX4_readItem_40 rfl (Nat.le_refl _) (Nat.le_refl _) ?_
      rw [if_pos (by omega)]
      exact ⟨rfl, rfl, kp 1, kv 1, fun c hc _ => am_up_ne hc⟩
  · refine aw_aload_n dX4_readItem_11 rfl ?_
    refine aw_getR1 dX4_readItem_12 fx_RX4_9 (by first | rfl | assumption) (by first | rfl | assumption) ?_
    refine aw_aload_n dX4_readItem_15 rfl ?_
    refine aw_getI dX4_readItem_16 fx_RX4_25 (by first | rfl | assumption) ?_
    rw [r2]
    refine aw_iaload dX4_readItem_19 (by first | rfl | assumption) (by omega) (by omega) ?_
    rw [r4 p p0 (by omega)]
    refine aw_goto 25 dX4_readItem_20 rfl ?_
    refine aw_s1i dX4_readItem_25 sl_RX4_68 (Nat.le_of_ble_eq_true rfl) (Nat.le_of_ble_eq_true rfl) (Nat.le_of_ble_eq_true rfl) (Nat.le_refl _) (Nat.le_refl _) (c_X4_kindOf) ?_
    first | rw [show kdS (b p) = kd from by rw [← hkd, if_pos (by omega)]] | rw [show kdS 32 = kd from by rw [← hkd, if_neg (by omega)]]
    refine aw_istore_n (ls' := [_, _, _]) dX4_readItem_28 (by decide) rfl ?_
    refine aw_iload_n dX4_readItem_29 rfl ?_
    refine aw_ldc (n := -1000000) dX4_readItem_30 kc_RX4_72 (by decide) ?_
    refine aw_icmp_ne 41 dX4_readItem_32 rfl (fun c32 => ?_) (fun c32 => ?_)
    · refine aw_aload_n dX4_readItem_41 rfl ?_
      refine aw_getI dX4_readItem_42 fx_RX4_31 (by first | rfl | assumption) ?_
      refine aw_bipush dX4_readItem_45 (by decide) (by decide) ?_
      refine aw_icmp_lt 56 dX4_readItem_47 rfl (fun c47 => ?_) (fun c47 => ?_)
      · rw [if_neg (by omega), if_neg (by omega)]
        have pl : p < l := by
          by_cases y : p < l
          · exact y
          · rw [if_neg y] at hkd
            exact absurd hkd.symm c32
        refine aw_aload_n dX4_readItem_56 rfl ?_
        refine aw_dup dX4_readItem_57 rfl ?_
        refine aw_getI dX4_readItem_58 fx_RX4_25 (by first | rfl | assumption) ?_
        refine aw_iconst dX4_readItem_61 (by decide) (by decide) ?_
        refine aw_iadd dX4_readItem_62 (by omega) (by omega) ?_
        refine aw_putI dX4_readItem_63 fp_RX4_25 (by first | rfl | assumption) ?_
        obtain ⟨g0, hg0⟩ : ∃ g, g = am_up h 14 2 (h 14 2 + 1) := ⟨_, rfl⟩
        rw [← hg0]
        have f0 : ∀ c, c ≠ 14 → g0 c = h c := fun c hc => by rw [hg0]; exact am_up_ne hc
        have R0 : RD b l g0 (p + 1, 0) := ⟨by rw [hg0]; simp [am_up]; exact r1, by rw [hg0]; simp [am_up]; exact r2, by rw [hg0]; simp [am_up]; exact r3, fun j j0 j1 => by rw [f0 13 (by decide)]; exact r4 j j0 j1⟩
        refine aw_aload_n dX4_readItem_66 rfl ?_
        refine aw_getR1 dX4_readItem_67 fx_RX4_73 (by first | rfl | assumption) (by first | rfl | assumption) ?_
        refine aw_aload_n dX4_readItem_70 rfl ?_
        refine aw_getI dX4_readItem_71 fx_RX4_31 (by first | rfl | assumption) ?_
        rw [f0 21 (by decide), w0]
        refine aw_iload_n dX4_readItem_74 rfl ?_
        refine aw_iastore dX4_readItem_75 (by first | rfl | assumption) (by omega) (by omega) (by omega) ?_
        obtain ⟨g1, hg1⟩ : ∃ g, g = am_up g0 (21 + 1) (V 0 0) kd := ⟨_, rfl⟩
        rw [← hg1]
        have f1 : ∀ c, c ≠ 22 → g1 c = g0 c := fun c hc => by rw [hg1]; exact am_up_ne hc
        have R1 : RD b l g1 (p + 1, 0) := ⟨by rw [f1 14 (by decide)]; exact R0.1, by rw [f1 14 (by decide)]; exact R0.2.1, by rw [f1 14 (by decide)]; exact R0.2.2.1, fun j j0 j1 => by rw [f1 13 (by decide)]; exact R0.2.2.2 j j0 j1⟩
        refine aw_aload_n dX4_readItem_76 rfl ?_
        refine aw_getR1 dX4_readItem_77 fx_RX4_76 (by first | rfl | assumption) (by first | rfl | assumption) ?_
        refine aw_aload_n dX4_readItem_80 rfl ?_
        refine aw_getI dX4_readItem_81 fx_RX4_31 (by first | rfl | assumption) ?_
        rw [f1 21 (by decide), f0 21 (by decide), w0]
        refine aw_aload_n dX4_readItem_84 rfl ?_
        refine aw_iload_n dX4_readItem_85 rfl ?_
        refine aw_v1q dX4_readItem_86 vl_RX4_79 (by first | rfl | assumption) (Nat.le_of_ble_eq_true rfl) (Nat.le_of_ble_eq_true rfl) (Nat.le_of_ble_eq_true rfl) (Nat.le_refl _) (Nat.le_refl _) (c_X4_readNumberOf R1 (by show 0 ≤ p + 1; omega) (by show p + 1 ≤ l; omega) hl) ?_
        intro v t' g2 hq
        obtain ⟨rfl, rfl, R2, f2⟩ := hq
        have nb := noS_b (b := b) (kd := kd) (x := (p + 1, 0)) (l := l) (by show 0 ≤ p + 1; omega) (by show p + 1 ≤ l; omega)
        refine aw_iastore dX4_readItem_89 (by first | rfl | assumption) (by omega) (by omega) (by omega) ?_
        obtain ⟨g3, hg3⟩ : ∃ g, g = am_up g2 (21 + 2) (V 0 0) (noV b l kd (p + 1, 0)) := ⟨_, rfl⟩
        rw [← hg3]
        have f3 : ∀ c, c ≠ 23 → g3 c = g2 c := fun c hc => by rw [hg3]; exact am_up_ne hc
        refine aw_aload_n dX4_readItem_90 rfl ?_
        refine aw_dup dX4_readItem_91 rfl ?_
        refine aw_getI dX4_readItem_92 fx_RX4_31 (by first | rfl | assumption) ?_
        rw [f3 21 (by decide), f2 21 (by decide), f1 21 (by decide), f0 21 (by decide), w0]
        refine aw_iconst dX4_readItem_95 (by decide) (by decide) ?_
        refine aw_iadd dX4_readItem_96 (by omega) (by omega) ?_
        refine aw_putI dX4_readItem_97 fp_RX4_31 (by first | rfl | assumption) ?_
        obtain ⟨g4, hg4⟩ : ∃ g, g = am_up g3 21 0 (V 0 0 + 1) := ⟨_, rfl⟩
        rw [← hg4]
        have f4 : ∀ c, c ≠ 21 → g4 c = g3 c := fun c hc => by rw [hg4]; exact am_up_ne hc
        have R4 : RD b l g4 (noS b l kd (p + 1, 0)) := ⟨by rw [f4 14 (by decide), f3 14 (by decide)]; exact R2.1, by rw [f4 14 (by decide), f3 14 (by decide)]; exact R2.2.1, by rw [f4 14 (by decide), f3 14 (by decide)]; exact R2.2.2.1, fun j j0 j1 => by rw [f4 13 (by decide), f3 13 (by decide)]; exact R2.2.2.2 j j0 j1⟩
        refine aw_aload_n dX4_readItem_100 rfl ?_
        refine aw_bipush dX4_readItem_101 (by decide) (by decide) ?_
        refine aw_v1q dX4_readItem_103 vl_RX4_52 (by first | rfl | assumption) (Nat.le_of_ble_eq_true rfl) (Nat.le_of_ble_eq_true rfl) (Nat.le_of_ble_eq_true rfl) (Nat.le_refl _) (Nat.le_refl _) (c_X4_readSign R4 hb nb.1 nb.2 hl) ?_
        intro v t' g5 hq
        obtain ⟨rfl, rfl, R5, f5⟩ := hq
        refine aw_return dX4_readItem_106 rfl (Nat.le_refl _) (Nat.le_refl _) ?_
        refine ⟨rfl, rfl, R5, ⟨fun k k0 k1 => ?_, fun k k0 k1 => ?_⟩, fun c hc1 hc2 => by rw [f5 c hc1, f4 c (by omega), f3 c (by omega), f2 c hc1, f1 c (by omega), f0 c hc1]⟩
        · rw [f5 21 (by decide), hg4]
          unfold am_up setV
          by_cases y : k = 0
          · subst y; simp
          · simp [y]
            rw [f3 21 (by decide), f2 21 (by decide), f1 21 (by decide), f0 21 (by decide)]
            exact w1 k k0 k1
        · have k2 : k < V 0 0 + 1 := by
            revert k1
            unfold setV
            simp
          rw [f5 22 (by decide), f5 23 (by decide), f4 22 (by decide), f4 23 (by decide), f3 22 (by decide), f2 22 (by decide), hg1, hg3]
          unfold am_up setV
          by_cases y : k = V 0 0
          · subst y; simp
          · simp [y]
            rw [f2 23 (by decide), f1 23 (by decide), f0 23 (by decide), f0 22 (by decide)]
            exact w2 k k0 (by omega)
      · refine aw_aload_n dX4_readItem_50 rfl ?_
        refine aw_iconst dX4_readItem_51 (by decide) (by decide) ?_
        refine aw_putI dX4_readItem_52 fp_RX4_28 (by first | rfl | assumption) ?_
        refine aw_return dX4_readItem_55 rfl (Nat.le_refl _) (Nat.le_refl _) ?_
        rw [if_neg (by omega), if_pos (by omega)]
        exact ⟨rfl, rfl, kp 3, kv 3, fun c hc _ => am_up_ne hc⟩
    · refine aw_aload_n dX4_readItem_35 rfl ?_
      refine aw_iconst dX4_readItem_36 (by decide) (by decide) ?_
      refine aw_putI dX4_readItem_37 fp_RX4_28 (by first | rfl | assumption) ?_
      refine aw_return dX4_readItem_40 rfl (Nat.le_refl _) (Nat.le_refl _) ?_
      rw [if_pos (by omega)]
      exact ⟨rfl, rfl, kp 1, kv 1, fun c hc _ => am_up_ne hc⟩
end REB
