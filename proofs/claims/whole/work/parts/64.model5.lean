theorem b_t {P : Prop} [dP : Decidable P] (h : (if P then (1 : Int) else 0) ≠ 0) : P := by
  by_cases y : P
  · exact y
  · rw [if_neg y] at h; exact absurd rfl h
theorem b_f {P : Prop} [dP : Decidable P] (h : (if P then (1 : Int) else 0) = 0) : ¬ P := by
  intro y
  rw [if_pos y] at h; exact absurd h (by decide)
section MO5
variable {e q n L : Nat} {h : Mem} {V : VW} {a : Nat}
theorem c_X9_rounds (sa : (TT e q n L).2.1 a = (20, 53)) (ha : a ≠ 385) (ha2 : a < 1000000) (ev : mV h a 0 = V) (hV : WFv V) (r0 : 0 ≤ V 0 4) (r1 : V 0 4 ≤ 100000) : Sem M_X9_rounds [vR 373, vR a] (TT e q n L) h 0 0 (fun v t' h' => v = some (vI (chg V (V 0 0).toNat)) ∧ t' = TT e q n L ∧ mV h' a 0 = addR (rnd V) 1 ∧ ∀ c, c ≠ a → c ≠ 385 → h' c = h c) := by
  have v1 := hV.1
  have v2 := hV.2.1
  refine sem_intro (by decide) rfl (Nat.le_of_ble_eq_true rfl) rfl ?_
  refine aw_aload_n dX9_rounds_0 rfl ?_
  refine aw_aload_n dX9_rounds_1 rfl ?_
  refine aw_ldc (n := -1000000) dX9_rounds_2 kc_RX9_56 (by decide) ?_
  refine aw_iconst dX9_rounds_4 (by decide) (by decide) ?_
  refine aw_v3q dX9_rounds_5 vl_RX9_162 (by first | rfl | assumption) (Nat.le_of_ble_eq_true rfl) (Nat.le_of_ble_eq_true rfl) (Nat.le_of_ble_eq_true rfl) (Nat.le_refl _) (Nat.le_refl _) (c_X9_setsOut sa ha ev hV (by omega)) ?_
  intro v t' h1 hq
  obtain ⟨rfl, rfl, f1, f2⟩ := hq
  have ev1 : mV h1 a 0 = V := by unfold mV mS; rw [f1 a ha]; exact ev
  have d1 : Dn V zz h1 (V 0 0).toNat := fun j hj => by have := f2 j hj; rw [xx_zz (by omega)] at this; exact this
  have e4 : h1 a 4 = V 0 4 := mA_r ev1
  refine aw_iconst dX9_rounds_8 (by decide) (by decide) ?_
  refine aw_istore_n (ls' := [_, _, _, _]) dX9_rounds_9 (by decide) rfl ?_
  refine aw_iconst dX9_rounds_10 (by decide) (by decide) ?_
  refine aw_istore_n (ls' := [_, _, _, _]) dX9_rounds_11 (by decide) rfl ?_
  exact aw_less (by repeat' (first | exact trivial | exact rfl | apply And.intro)) (l_rounds (h := h1) (N := (V 0 0).toNat) sa ha ha2 ev1 hV (by omega) d1 (by omega) (by omega) (fun hh f g => ⟨rfl, rfl, g, fun c c1 c2 => by rw [f c c1]; exact f1 c c2⟩) (V 0 0).toNat 0 h1 (by omega) (fun _ _ => rfl) (fun i hi => absurd hi (Nat.not_lt_zero i)) (fun _ _ => rfl) (by show (0 : Int) ≤ 0; omega) (by show (0 : Int) ≤ 0; omega))
theorem l_isSettled {Q : Option AV → Tp → Mem → Prop} {N : Nat} (sa : (TT e q n L).2.1 a = (20, 53)) (ev : mV h a 0 = V) (hV : WFv V) (hN : V 0 0 = (N : Int)) (hD : Dn V zz h N) (hk : Q (some (vI (if stl V = true then 1 else 0))) (TT e q n L) h) :
    ∀ (m k : Nat), k + m = N → AW M_X9_isSettled 0 0 Q 12 [some (vR 373), some (vR a), some (vI (if eqg (V 3) (pag V) k = true then 1 else 0)), some (vI k)] [] (TT e q n L) h 0 0 := by
  have v2 := hV.2.1
  have ea : h a 3 = N := by rw [mA_c ev, hN]
  intro m
  induction m with
  | zero =>
    intro k hi
    have ek : k = N := by omega
    subst ek
    have es : stl V = eqg (V 3) (pag V) k := by unfold stl; rw [hN, Int.toNat_natCast]
    rw [es] at hk
    refine aw_iload_n dX9_isSettled_12 rfl ?_
    refine aw_aload_n dX9_isSettled_13 rfl ?_
    refine aw_iconst dX9_isSettled_14 (by decide) (by decide) ?_
    refine aw_iaload dX9_isSettled_15 (by first | rfl | assumption) (by omega) (by omega) ?_
    rw [ea]
    refine aw_icmp_ge 55 dX9_isSettled_16 rfl (fun c16 => ?_) (fun c16 => ?_)
    · refine aw_iload_n dX9_isSettled_55 rfl ?_
      refine aw_zreturn dX9_isSettled_56 rfl (Nat.le_refl _) (Nat.le_refl _) (by split <;> omega) (by split <;> omega) ?_
      exact hk
    · exfalso; omega
  | succ m ih =>
    intro k hi
    have eg : h a (5 + 4 * k + 2) = V 3 k := mA3 ev (by omega) (by omega)
    have ep : h 385 (3 * k) = pag V k := (hD k (by omega)).1
    have z := ih (k + 1) (by omega)
    have es : eqg (V 3) (pag V) (k + 1) = (eqg (V 3) (pag V) k && decide (V 3 k = pag V k)) := rfl
    rw [es] at z
    refine aw_iload_n dX9_isSettled_12 rfl ?_
    refine aw_aload_n dX9_isSettled_13 rfl ?_
    refine aw_iconst dX9_isSettled_14 (by decide) (by decide) ?_
    refine aw_iaload dX9_isSettled_15 (by first | rfl | assumption) (by omega) (by omega) ?_
    rw [ea]
    refine aw_icmp_ge 55 dX9_isSettled_16 rfl (fun c16 => ?_) (fun c16 => ?_)
    · exfalso; omega
    · refine aw_iload_n dX9_isSettled_19 rfl ?_
      refine aw_if_eq 47 dX9_isSettled_20 rfl (fun c20 => ?_) (fun c20 => ?_)
      · refine aw_iconst dX9_isSettled_47 (by decide) (by decide) ?_
        refine aw_istore_n (ls' := [_, _, _, _]) dX9_isSettled_48 (by decide) rfl ?_
        refine aw_iinc (ls' := [_, _, _, _]) dX9_isSettled_49 (by decide) rfl (by omega) (by omega) rfl ?_
        refine aw_goto 12 dX9_isSettled_52 rfl ?_
        first | (rw [if_pos (by rw [Bool.and_eq_true]; exact ⟨b_t c20, decide_eq_true (by omega)⟩)] at z; exact aw_less (by repeat' (first | exact trivial | exact rfl | apply And.intro)) z) | (rw [if_neg (by rw [Bool.and_eq_true]; intro y; have := of_decide_eq_true y.2; omega)] at z; exact aw_less (by repeat' (first | exact trivial | exact rfl | apply And.intro)) z) | (rw [if_neg (by rw [Bool.and_eq_true]; intro y; exact b_f c20 y.1)] at z; exact aw_less (by repeat' (first | exact trivial | exact rfl | apply And.intro)) z)
      · refine aw_aload_n dX9_isSettled_23 rfl ?_
        refine aw_iconst dX9_isSettled_24 (by decide) (by decide) ?_
        refine aw_iconst dX9_isSettled_25 (by decide) (by decide) ?_
        refine aw_iload_n dX9_isSettled_26 rfl ?_
        refine aw_imul dX9_isSettled_27 (by omega) (by omega) ?_
        refine aw_iadd dX9_isSettled_28 (by omega) (by omega) ?_
        refine aw_iconst dX9_isSettled_29 (by decide) (by decide) ?_
        refine aw_iadd dX9_isSettled_30 (by omega) (by omega) ?_
        refine aw_iaload dX9_isSettled_31 (by first | rfl | assumption) (by omega) (by omega) ?_
        rw [eg]
        refine aw_aload_n dX9_isSettled_32 rfl ?_
        refine aw_getR1 dX9_isSettled_33 fx_RX9_44 (by first | rfl | assumption) (by first | rfl | assumption) ?_
        refine aw_iconst dX9_isSettled_36 (by decide) (by decide) ?_
        refine aw_iload_n dX9_isSettled_37 rfl ?_
        refine aw_imul dX9_isSettled_38 (by omega) (by omega) ?_
        refine aw_iaload dX9_isSettled_39 (by first | rfl | assumption) (by omega) (by omega) ?_
        rw [ep]
        refine aw_icmp_ne 47 dX9_isSettled_40 rfl (fun c40 => ?_) (fun c40 => ?_)
        · refine aw_iconst dX9_isSettled_47 (by decide) (by decide) ?_
          refine aw_istore_n (ls' := [_, _, _, _]) dX9_isSettled_48 (by decide) rfl ?_
          refine aw_iinc (ls' := [_, _, _, _]) dX9_isSettled_49 (by decide) rfl (by omega) (by omega) rfl ?_
          refine aw_goto 12 dX9_isSettled_52 rfl ?_
          first | (rw [if_pos (by rw [Bool.and_eq_true]; exact ⟨b_t c20, decide_eq_true (by omega)⟩)] at z; exact aw_less (by repeat' (first | exact trivial | exact rfl | apply And.intro)) z) | (rw [if_neg (by rw [Bool.and_eq_true]; intro y; have := of_decide_eq_true y.2; omega)] at z; exact aw_less (by repeat' (first | exact trivial | exact rfl | apply And.intro)) z) | (rw [if_neg (by rw [Bool.and_eq_true]; intro y; exact b_f c20 y.1)] at z; exact aw_less (by repeat' (first | exact trivial | exact rfl | apply And.intro)) z)
        · refine aw_iconst dX9_isSettled_43 (by decide) (by decide) ?_
          refine aw_goto 48 dX9_isSettled_44 rfl ?_
          refine aw_istore_n (ls' := [_, _, _, _]) dX9_isSettled_48 (by decide) rfl ?_
          refine aw_iinc (ls' := [_, _, _, _]) dX9_isSettled_49 (by decide) rfl (by omega) (by omega) rfl ?_
          refine aw_goto 12 dX9_isSettled_52 rfl ?_
          first | (rw [if_pos (by rw [Bool.and_eq_true]; exact ⟨b_t c20, decide_eq_true (by omega)⟩)] at z; exact aw_less (by repeat' (first | exact trivial | exact rfl | apply And.intro)) z) | (rw [if_neg (by rw [Bool.and_eq_true]; intro y; have := of_decide_eq_true y.2; omega)] at z; exact aw_less (by repeat' (first | exact trivial | exact rfl | apply And.intro)) z) | (rw [if_neg (by rw [Bool.and_eq_true]; intro y; exact b_f c20 y.1)] at z; exact aw_less (by repeat' (first | exact trivial | exact rfl | apply And.intro)) z)
theorem c_X9_isSettled (sa : (TT e q n L).2.1 a = (20, 53)) (ha : a ≠ 385) (ev : mV h a 0 = V) (hV : WFv V) : Sem M_X9_isSettled [vR 373, vR a] (TT e q n L) h 0 0 (fun v t' h' => v = some (vI (if stl V = true then 1 else 0)) ∧ t' = TT e q n L ∧ ∀ c, c ≠ 385 → h' c = h c) := by
  have v1 := hV.1
  have v2 := hV.2.1
  refine sem_intro (by decide) rfl (Nat.le_of_ble_eq_true rfl) rfl ?_
  refine aw_aload_n dX9_isSettled_0 rfl ?_
  refine aw_aload_n dX9_isSettled_1 rfl ?_
  refine aw_ldc (n := -1000000) dX9_isSettled_2 kc_RX9_56 (by decide) ?_
  refine aw_iconst dX9_isSettled_4 (by decide) (by decide) ?_
  refine aw_v3q dX9_isSettled_5 vl_RX9_162 (by first | rfl | assumption) (Nat.le_of_ble_eq_true rfl) (Nat.le_of_ble_eq_true rfl) (Nat.le_of_ble_eq_true rfl) (Nat.le_refl _) (Nat.le_refl _) (c_X9_setsOut sa ha ev hV (by omega)) ?_
  intro v t' h1 hq
  obtain ⟨rfl, rfl, f1, f2⟩ := hq
  have ev1 : mV h1 a 0 = V := by unfold mV mS; rw [f1 a ha]; exact ev
  have d1 : Dn V zz h1 (V 0 0).toNat := fun j hj => by have := f2 j hj; rw [xx_zz (by omega)] at this; exact this
  refine aw_iconst dX9_isSettled_8 (by decide) (by decide) ?_
  refine aw_istore_n (ls' := [_, _, _, _]) dX9_isSettled_9 (by decide) rfl ?_
  refine aw_iconst dX9_isSettled_10 (by decide) (by decide) ?_
  refine aw_istore_n (ls' := [_, _, _, _]) dX9_isSettled_11 (by decide) rfl ?_
  exact aw_less (by repeat' (first | exact trivial | exact rfl | apply And.intro)) (l_isSettled (h := h1) (N := (V 0 0).toNat) sa ev1 hV (by omega) d1 ⟨rfl, rfl, f1⟩ (V 0 0).toNat 0 (by omega))
theorem l_begins {Q : Option AV → Tp → Mem → Prop} {t : Tp} {N : Nat} (sa : t.2.1 a = (20, 53)) (ha2 : a < 1000000) (ev : mV h a 0 = V) (h1 : 0 ≤ V 0 0) (v2 : V 0 0 ≤ 12) (hN : V 0 0 = (N : Int))
    (hk : ∀ hh, (∀ c, c ≠ a → hh c = h c) → mV hh a 0 = bgn V → Q none t hh) :
    ∀ (m k : Nat) (hh : Mem), k + m = N → (∀ c, c ≠ a → hh c = h c) → (∀ i : Nat, i < k → hh a (5 + 4 * i + 2) = V 0 3 ∧ hh a (5 + 4 * i + 3) = 0) → (∀ j : Int, j < 5 ∨ (j - 5) % 4 < 2 ∨ 5 + 4 * k ≤ j → hh a j = h a j) → AW M_X9_begins 0 0 Q 2 [some (vR a), some (vI k)] [] t hh 0 0 := by
  intro m
  induction m with
  | zero =>
    intro k hh hi hf g1 g2
    have ek : k = N := by omega
    subst ek
    have ea : hh a 3 = k := by rw [g2 3 (by omega), mA_c ev, hN]
    have fin : mV hh a 0 = bgn V := by
      refine mV_is (cut_cut _) ?_ ?_ ?_ ?_ ?_ (fun i i0 i1 => ?_)
      · rw [g2 3 (by omega), mA_c ev, bgn_0 (by omega) (by omega)]
      · rw [g2 0 (by omega), mA_w ev, bgn_0 (by omega) (by omega)]
      · rw [g2 1 (by omega), mA_l ev, bgn_0 (by omega) (by omega)]
      · rw [g2 2 (by omega), mA_f ev, bgn_0 (by omega) (by omega)]
      · rw [g2 4 (by omega), mA_r ev, bgn_0 (by omega) (by omega)]
      · have i2 : i < V 0 0 := by rw [bgn_0 (by omega) (by omega)] at i1; exact i1
        have := g1 i.toNat (by omega)
        rw [am_nat i0] at this
        rw [bgn_j (j := 1) (by omega) i0 i2, bgn_j (j := 2) (by omega) i0 i2, bgn_j (j := 3) (by omega) i0 i2, bgn_j (j := 4) (by omega) i0 i2, if_neg (by decide), if_neg (by decide), if_neg (by decide), if_neg (by decide), if_pos rfl, if_neg (by decide), if_pos rfl, g2 _ (by omega), g2 (5 + 4 * i + 1) (by omega), mA1 ev i0 i2, mA2 ev i0 i2]
        exact ⟨rfl, rfl, this.1, this.2⟩
    refine aw_iload_n dX9_begins_2 rfl ?_
    refine aw_aload_n dX9_begins_3 rfl ?_
    refine aw_iconst dX9_begins_4 (by decide) (by decide) ?_
    refine aw_iaload dX9_begins_5 (by first | rfl | assumption) (by omega) (by omega) ?_
    rw [ea]
    refine aw_icmp_ge 37 dX9_begins_6 rfl (fun c6 => ?_) (fun c6 => ?_)
    · refine aw_return dX9_begins_37 rfl (Nat.le_refl _) (Nat.le_refl _) ?_
      exact hk hh hf fin
    · exfalso; omega
  | succ m ih =>
    intro k hh hi hf g1 g2
    have ea : hh a 3 = N := by rw [g2 3 (by omega), mA_c ev, hN]
    have e2 : hh a 2 = V 0 3 := by rw [g2 2 (by omega), mA_f ev]
    have z := ih (k + 1)
    refine aw_iload_n dX9_begins_2 rfl ?_
    refine aw_aload_n dX9_begins_3 rfl ?_
    refine aw_iconst dX9_begins_4 (by decide) (by decide) ?_
    refine aw_iaload dX9_begins_5 (by first | rfl | assumption) (by omega) (by omega) ?_
    rw [ea]
    refine aw_icmp_ge 37 dX9_begins_6 rfl (fun c6 => ?_) (fun c6 => ?_)
    · exfalso; omega
    · refine aw_aload_n dX9_begins_9 rfl ?_
      refine aw_iconst dX9_begins_10 (by decide) (by decide) ?_
      refine aw_iconst dX9_begins_11 (by decide) (by decide) ?_
      refine aw_iload_n dX9_begins_12 rfl ?_
      refine aw_imul dX9_begins_13 (by omega) (by omega) ?_
      refine aw_iadd dX9_begins_14 (by omega) (by omega) ?_
      refine aw_iconst dX9_begins_15 (by decide) (by decide) ?_
      refine aw_iadd dX9_begins_16 (by omega) (by omega) ?_
      refine aw_aload_n dX9_begins_17 rfl ?_
      refine aw_iconst dX9_begins_18 (by decide) (by decide) ?_
      refine aw_iaload dX9_begins_19 (by first | rfl | assumption) (by omega) (by omega) ?_
      rw [e2]
      refine aw_iastore dX9_begins_20 (by first | rfl | assumption) (by omega) (by omega) (by omega) ?_
      refine aw_aload_n dX9_begins_21 rfl ?_
      refine aw_iconst dX9_begins_22 (by decide) (by decide) ?_
      refine aw_iconst dX9_begins_23 (by decide) (by decide) ?_
      refine aw_iload_n dX9_begins_24 rfl ?_
      refine aw_imul dX9_begins_25 (by omega) (by omega) ?_
      refine aw_iadd dX9_begins_26 (by omega) (by omega) ?_
      refine aw_iconst dX9_begins_27 (by decide) (by decide) ?_
      refine aw_iadd dX9_begins_28 (by omega) (by omega) ?_
      refine aw_iconst dX9_begins_29 (by decide) (by decide) ?_
      refine aw_iastore dX9_begins_30 (by first | rfl | assumption) (by omega) (by omega) (by omega) ?_
      refine aw_iinc (ls' := [_, _]) dX9_begins_31 (by decide) rfl (by omega) (by omega) rfl ?_
      refine aw_goto 2 dX9_begins_34 rfl ?_
      refine z _ (by omega) (fun c hc => by rw [am_up_ne hc, am_up_ne hc]; exact hf c hc) (fun i hi2 => ?_) (fun j hj => ?_)
      · unfold am_up
        by_cases y : i = k
        · subst y
          rw [if_neg (by omega), if_pos ⟨rfl, rfl⟩, if_pos ⟨rfl, rfl⟩]
          exact ⟨rfl, rfl⟩
        · rw [if_neg (by omega), if_neg (by omega), if_neg (by omega), if_neg (by omega)]
          exact g1 i (by omega)
      · unfold am_up
        rw [if_neg (by omega), if_neg (by omega)]
        exact g2 j (by omega)
theorem c_X9_begins {t : Tp} (sa : t.2.1 a = (20, 53)) (ha2 : a < 1000000) (ev : mV h a 0 = V) (h1 : 0 ≤ V 0 0) (v2 : V 0 0 ≤ 12) : Sem M_X9_begins [vR a] t h 0 0 (fun v t' h' => v = none ∧ t' = t ∧ mV h' a 0 = bgn V ∧ ∀ c, c ≠ a → h' c = h c) := by
  refine sem_intro (by decide) rfl (Nat.le_of_ble_eq_true rfl) rfl ?_
  refine aw_iconst dX9_begins_0 (by decide) (by decide) ?_
  refine aw_istore_n (ls' := [_, _]) dX9_begins_1 (by decide) rfl ?_
  exact l_begins (N := (V 0 0).toNat) sa ha2 ev h1 v2 (by omega) (fun hh f g => ⟨rfl, rfl, g, f⟩) (V 0 0).toNat 0 h (by omega) (fun _ _ => rfl) (fun i hi => absurd hi (Nat.not_lt_zero i)) (fun _ _ => rfl)
end MO5
