theorem lkS_no {V : VW} {i : Nat} (h : ¬ mbn (V 0 0) (V 1 i) (V 2 i)) : ∀ n : Nat, i < n → lkS V n = false
  | 0, z => absurd z (Nat.not_lt_zero i)
  | n + 1, z => by
    show (lkS V n && decide (mbn (V 0 0) (V 1 n) (V 2 n))) = false
    by_cases y : i = n
    · subst y
      rw [decide_eq_false h, Bool.and_false]
    · rw [lkS_no h n (by omega), Bool.false_and]
section REC
variable {e q n L : Nat} {h : Mem} {b : Int → Int} {l : Int} {V : VW}
theorem l_look {Q : Option AV → Tp → Mem → Prop} {p : Int} {N : Nat} (hR : RD b l h (p, 0)) (hV : RV h V) (hN : V 0 0 = (N : Int)) (h12 : N ≤ 12) (hk : ∀ hh, RD b l hh (p, if lkS V N = true then 0 else 4) → (∀ c, c ≠ 14 → hh c = h c) → Q none (TT e 13 n L) hh) :
    ∀ (m i : Nat), i + m = N → lkS V i = true → AW M_X4_lookAtReferences 0 0 Q 2 [some (vR 14), some (vR 21), some (vI i)] [] (TT e 13 n L) h 0 0 := by
  obtain ⟨r1, r2, r3, r4⟩ := id hR
  have w0 : h 21 0 = N := by rw [hV.1 0 (by decide) (by decide), hN]
  have ex : ∀ (i : Nat), i ≤ N → lkS V N = false → AW M_X4_lookAtReferences 0 0 Q 2 [some (vR 14), some (vR 21), some (vI i)] [] (TT e 13 n L) (am_up h 14 3 4) 0 0 := by
    intro i hi hn
    have z := hk (am_up h 14 3 4) (by rw [hn]; exact ⟨by simp [am_up]; exact r1, by simp [am_up]; exact r2, by simp [am_up], fun j j0 j1 => by rw [am_up_ne (by decide)]; exact r4 j j0 j1⟩) (fun c hc => am_up_ne hc)
    refine aw_iload_n dX4_lookAtReferences_2 rfl ?_
    refine aw_aload_n dX4_lookAtReferences_3 rfl ?_
    refine aw_getI dX4_lookAtReferences_4 fx_RX4_31 (by first | rfl | assumption) ?_
    refine aw_icmp_ge 47 dX4_lookAtReferences_7 rfl (fun c7 => ?_) (fun c7 => ?_)
    · refine aw_return dX4_lookAtReferences_47 rfl (Nat.le_refl _) (Nat.le_refl _) ?_
      exact z
    · refine aw_aload_n dX4_lookAtReferences_10 rfl ?_
      refine aw_getI dX4_lookAtReferences_11 fx_RX4_28 (by first | rfl | assumption) ?_
      refine aw_if_ne 47 dX4_lookAtReferences_14 rfl (fun c14 => ?_) (fun c14 => ?_)
      · refine aw_return dX4_lookAtReferences_47 rfl (Nat.le_refl _) (Nat.le_refl _) ?_
        exact z
      · exfalso; simp [am_up] at c14
  intro m
  induction m with
  | zero =>
    intro i hi hs
    have ek : i = N := by omega
    subst ek
    have z := hk h (by rw [hs]; exact hR) (fun _ _ => rfl)
    refine aw_iload_n dX4_lookAtReferences_2 rfl ?_
    refine aw_aload_n dX4_lookAtReferences_3 rfl ?_
    refine aw_getI dX4_lookAtReferences_4 fx_RX4_31 (by first | rfl | assumption) ?_
    refine aw_icmp_ge 47 dX4_lookAtReferences_7 rfl (fun c7 => ?_) (fun c7 => ?_)
    · refine aw_return dX4_lookAtReferences_47 rfl (Nat.le_refl _) (Nat.le_refl _) ?_
      exact z
    · exfalso; omega
  | succ m ih =>
    intro i hi hs
    obtain ⟨k1, k2⟩ := hV.2 i (by omega) (by omega)
    have k1' : h (21 + 1) i = V 1 i := k1
    have k2' : h (21 + 2) i = V 2 i := k2
    have z := ih (i + 1) (by omega)
    refine aw_iload_n dX4_lookAtReferences_2 rfl ?_
    refine aw_aload_n dX4_lookAtReferences_3 rfl ?_
    refine aw_getI dX4_lookAtReferences_4 fx_RX4_31 (by first | rfl | assumption) ?_
    refine aw_icmp_ge 47 dX4_lookAtReferences_7 rfl (fun c7 => ?_) (fun c7 => ?_)
    · exfalso; omega
    · refine aw_aload_n dX4_lookAtReferences_10 rfl ?_
      refine aw_getI dX4_lookAtReferences_11 fx_RX4_28 (by first | rfl | assumption) ?_
      refine aw_if_ne 47 dX4_lookAtReferences_14 rfl (fun c14 => ?_) (fun c14 => ?_)
      · exfalso; simp only at r3; omega
      · refine aw_aload_n dX4_lookAtReferences_17 rfl ?_
        refine aw_aload_n dX4_lookAtReferences_18 rfl ?_
        refine aw_getR1 dX4_lookAtReferences_19 fx_RX4_73 (by first | rfl | assumption) (by first | rfl | assumption) ?_
        refine aw_iload_n dX4_lookAtReferences_22 rfl ?_
        refine aw_iaload dX4_lookAtReferences_23 (by first | rfl | assumption) (by omega) (by omega) ?_
        rw [k1']
        refine aw_aload_n dX4_lookAtReferences_24 rfl ?_
        refine aw_getR1 dX4_lookAtReferences_25 fx_RX4_76 (by first | rfl | assumption) (by first | rfl | assumption) ?_
        refine aw_iload_n dX4_lookAtReferences_28 rfl ?_
        refine aw_iaload dX4_lookAtReferences_29 (by first | rfl | assumption) (by omega) (by omega) ?_
        rw [k2']
        refine aw_v2i dX4_lookAtReferences_30 vl_RX4_82 (by first | rfl | assumption) (Nat.le_of_ble_eq_true rfl) (Nat.le_of_ble_eq_true rfl) (Nat.le_of_ble_eq_true rfl) (Nat.le_refl _) (Nat.le_refl _) (c_X7_mayBeNumber (x := if mbn (h 21 0) (V 1 i) (V 2 i) then 1 else 0) sh_21 (by by_cases z : mbn (h 21 0) (V 1 i) (V 2 i); exact Or.inl ⟨z, if_pos z⟩; exact Or.inr ⟨z, if_neg z⟩)) ?_
        rw [w0, ← hN]
        refine aw_ifB_ne 41 dX4_lookAtReferences_33 rfl (fun c33 => ?_) (fun c33 => ?_)
        · refine aw_iinc (ls' := [_, _, _]) dX4_lookAtReferences_41 (by decide) rfl (by omega) (by omega) rfl ?_
          refine aw_goto 2 dX4_lookAtReferences_44 rfl ?_
          first | exact z (by show (lkS V i && decide (mbn (V 0 0) (V 1 i) (V 2 i))) = true; rw [hs, Bool.true_and]; exact decide_eq_true c33) | exact ex (i + 1) (by omega) (lkS_no (i := i) c33 N (by omega))
        · refine aw_aload_n dX4_lookAtReferences_36 rfl ?_
          refine aw_iconst dX4_lookAtReferences_37 (by decide) (by decide) ?_
          refine aw_putI dX4_lookAtReferences_38 fp_RX4_28 (by first | rfl | assumption) ?_
          refine aw_iinc (ls' := [_, _, _]) dX4_lookAtReferences_41 (by decide) rfl (by omega) (by omega) rfl ?_
          refine aw_goto 2 dX4_lookAtReferences_44 rfl ?_
          first | exact z (by show (lkS V i && decide (mbn (V 0 0) (V 1 i) (V 2 i))) = true; rw [hs, Bool.true_and]; exact decide_eq_true c33) | exact ex (i + 1) (by omega) (lkS_no (i := i) c33 N (by omega))
theorem c_X4_look {p f : Int} {N : Nat} (hR : RD b l h (p, f)) (hV : RV h V) (hN : V 0 0 = (N : Int)) (h12 : N ≤ 12) : Sem M_X4_lookAtReferences [vR 14, vR 21] (TT e 13 n L) h 0 0 (fun v t' h' => v = none ∧ t' = TT e 13 n L ∧ RD b l h' (p, if f ≠ 0 then f else if lkS V N = true then 0 else 4) ∧ ∀ c, c ≠ 14 → h' c = h c) := by
  obtain ⟨r1, r2, r3, r4⟩ := id hR
  have w0 : h 21 0 = N := by rw [hV.1 0 (by decide) (by decide), hN]
  by_cases z : f = 0
  · subst z
    rw [if_neg (fun y => y rfl)]
    refine sem_intro (by decide) rfl (Nat.le_of_ble_eq_true rfl) rfl ?_
    refine aw_iconst dX4_lookAtReferences_0 (by decide) (by decide) ?_
    refine aw_istore_n (ls' := [_, _, _]) dX4_lookAtReferences_1 (by decide) rfl ?_
    exact l_look hR hV hN h12 (fun hh f g => ⟨rfl, rfl, f, g⟩) N 0 (by omega) rfl
  · rw [if_pos z]
    refine sem_intro (by decide) rfl (Nat.le_of_ble_eq_true rfl) rfl ?_
    refine aw_iconst dX4_lookAtReferences_0 (by decide) (by decide) ?_
    refine aw_istore_n (ls' := [_, _, _]) dX4_lookAtReferences_1 (by decide) rfl ?_
    refine aw_iload_n dX4_lookAtReferences_2 rfl ?_
    refine aw_aload_n dX4_lookAtReferences_3 rfl ?_
    refine aw_getI dX4_lookAtReferences_4 fx_RX4_31 (by first | rfl | assumption) ?_
    try rw [w0]
    refine aw_icmp_ge 47 dX4_lookAtReferences_7 rfl (fun c7 => ?_) (fun c7 => ?_)
    · refine aw_return dX4_lookAtReferences_47 rfl (Nat.le_refl _) (Nat.le_refl _) ?_
      exact ⟨rfl, rfl, hR, fun _ _ => rfl⟩
    · refine aw_aload_n dX4_lookAtReferences_10 rfl ?_
      refine aw_getI dX4_lookAtReferences_11 fx_RX4_28 (by first | rfl | assumption) ?_
      refine aw_if_ne 47 dX4_lookAtReferences_14 rfl (fun c14 => ?_) (fun c14 => ?_)
      · refine aw_return dX4_lookAtReferences_47 rfl (Nat.le_refl _) (Nat.le_refl _) ?_
        exact ⟨rfl, rfl, hR, fun _ _ => rfl⟩
      · exfalso; simp only at r3; omega
theorem itS_b {s : PS} (h0 : 0 ≤ s.1.1) (h1 : s.1.1 ≤ l) (c0 : 0 ≤ s.2 0 0) (c1 : s.2 0 0 ≤ 12) : 0 ≤ (itS b l s).1.1 ∧ (itS b l s).1.1 ≤ l ∧ 0 ≤ (itS b l s).2 0 0 ∧ (itS b l s).2 0 0 ≤ 12 := by
  unfold itS
  generalize hkd : kdS (if s.1.1 < l then b s.1.1 else 32) = kd
  by_cases z : kd = -1000000
  · rw [if_pos z]; exact ⟨h0, h1, c0, c1⟩
  · rw [if_neg z]
    have pl : s.1.1 < l := by
      by_cases y : s.1.1 < l
      · exact y
      · rw [if_neg y] at hkd; exact absurd hkd.symm z
    by_cases y : 12 ≤ s.2 0 0
    · rw [if_pos y]; exact ⟨h0, h1, c0, c1⟩
    · rw [if_neg y]
      have nb := noS_b (b := b) (l := l) (kd := kd) (x := (s.1.1 + 1, 0)) (by show 0 ≤ s.1.1 + 1; omega) (by show s.1.1 + 1 ≤ l; omega)
      have sb := sgS_b (b := b) (s := 59) nb.1 nb.2
      refine ⟨sb.1, sb.2, ?_, ?_⟩
      · simp [setV]; omega
      · simp [setV]; omega
theorem itN_b : ∀ (m : Nat) (s : PS), 0 ≤ s.1.1 → s.1.1 ≤ l → 0 ≤ s.2 0 0 → s.2 0 0 ≤ 12 → 0 ≤ (itN b l m s).1.1 ∧ (itN b l m s).1.1 ≤ l ∧ 0 ≤ (itN b l m s).2 0 0 ∧ (itN b l m s).2 0 0 ≤ 12
  | 0, s, h0, h1, c0, c1 => ⟨h0, h1, c0, c1⟩
  | m + 1, s, h0, h1, c0, c1 => by
    unfold itN
    split
    · obtain ⟨a, b, c, d⟩ := itS_b (b := b) h0 h1 c0 c1
      exact itN_b m _ a b c d
    · exact ⟨h0, h1, c0, c1⟩
theorem l_reads {Q : Option AV → Tp → Mem → Prop} {N : Nat} (hb : ∀ j, 0 ≤ j → j < l → 0 ≤ b j ∧ b j ≤ 255) (hl : l ≤ 80) (hN : l = (N : Int)) {S : PS}
    (hk : ∀ (hh : Mem) (i : Int), RD b l hh S.1 → RV hh S.2 → (∀ c, c ≠ 14 → c < 21 ∨ 23 < c → hh c = h c) → AW M_X4_reads 0 0 Q 88 [some (vR 14), some (vR 13), some (vI l), some (vR 21), some (vI i)] [] (TT e 13 n L) hh 0 0) :
    ∀ (m i : Nat) (s : PS) (hh : Mem), i + m = N → RD b l hh s.1 → RV hh s.2 → 0 ≤ s.1.1 → s.1.1 ≤ l → 0 ≤ s.2 0 0 → s.2 0 0 ≤ 12 → (∀ c, c ≠ 14 → c < 21 ∨ 23 < c → hh c = h c) → itN b l m s = S → AW M_X4_reads 0 0 Q 43 [some (vR 14), some (vR 13), some (vI l), some (vR 21), some (vI i)] [] (TT e 13 n L) hh 0 0 := by
  intro m
  induction m with
  | zero =>
    intro i s hh hi hR hV h0 h1 c0 c1 hf hS
    obtain ⟨r1, r2, r3, r4⟩ := id hR
    have eS : s = S := hS
    subst eS
    refine aw_iload dX4_reads_43 rfl ?_
    refine aw_aload_n dX4_reads_45 rfl ?_
    refine aw_getI dX4_reads_46 fx_RX4_21 (by first | rfl | assumption) ?_
    refine aw_icmp_ge 88 dX4_reads_49 rfl (fun c49 => ?_) (fun c49 => ?_)
    · exact hk hh i hR hV hf
    · exfalso; omega
  | succ m ih =>
    intro i s hh hi hR hV h0 h1 c0 c1 hf hS
    obtain ⟨r1, r2, r3, r4⟩ := id hR
    have w0 := hV.1 0 (by decide) (by decide)
    have no : ¬ (s.1.2 = 0 ∧ (s.1.1 < l ∨ s.2 0 0 = 0)) → AW M_X4_reads 0 0 Q 88 [some (vR 14), some (vR 13), some (vI l), some (vR 21), some (vI i)] [] (TT e 13 n L) hh 0 0 := by
      intro z
      unfold itN at hS
      rw [if_neg z] at hS
      subst hS
      exact hk hh i hR hV hf
    have ye : s.1.2 = 0 ∧ (s.1.1 < l ∨ s.2 0 0 = 0) → itN b l m (itS b l s) = S := by
      intro z
      unfold itN at hS
      rw [if_pos z] at hS
      exact hS
    obtain ⟨a1, a2, a3, a4⟩ := itS_b (b := b) h0 h1 c0 c1
    obtain ⟨⟨p, f⟩, V⟩ := s
    simp only at *
    refine aw_iload dX4_reads_43 rfl ?_
    refine aw_aload_n dX4_reads_45 rfl ?_
    refine aw_getI dX4_reads_46 fx_RX4_21 (by first | rfl | assumption) ?_
    refine aw_icmp_ge 88 dX4_reads_49 rfl (fun c49 => ?_) (fun c49 => ?_)
    · exfalso; omega
    · refine aw_aload_n dX4_reads_52 rfl ?_
      refine aw_getI dX4_reads_53 fx_RX4_28 (by first | rfl | assumption) ?_
      refine aw_if_ne 88 dX4_reads_56 rfl (fun c56 => ?_) (fun c56 => ?_)
      · exact no (by omega)
      · refine aw_aload_n dX4_reads_59 rfl ?_
        refine aw_getI dX4_reads_60 fx_RX4_25 (by first | rfl | assumption) ?_
        refine aw_aload_n dX4_reads_63 rfl ?_
        refine aw_getI dX4_reads_64 fx_RX4_21 (by first | rfl | assumption) ?_
        rw [r1, r2]
        refine aw_icmp_lt 77 dX4_reads_67 rfl (fun c67 => ?_) (fun c67 => ?_)
        · have f0 : f = 0 := by omega
          subst f0
          refine aw_aload_n dX4_reads_77 rfl ?_
          refine aw_aload_n dX4_reads_78 rfl ?_
          refine aw_v1q dX4_reads_79 vl_RX4_43 (by first | rfl | assumption) (Nat.le_of_ble_eq_true rfl) (Nat.le_of_ble_eq_true rfl) (Nat.le_of_ble_eq_true rfl) (Nat.le_refl _) (Nat.le_refl _) (c_X4_readItem hR hV hb h0 h1 hl c0 c1) ?_
          intro v t' h2 hq
          obtain ⟨rfl, rfl, f1, f2, f3⟩ := hq
          refine aw_iinc (ls' := [_, _, _, _, _]) dX4_reads_82 (by decide) rfl (by omega) (by omega) rfl ?_
          refine aw_goto 43 dX4_reads_85 rfl ?_
          exact ih (i + 1) (itS b l ((p, 0), V)) h2 (by omega) f1 f2 a1 a2 a3 a4 (fun c x1 x2 => by rw [f3 c x1 x2]; exact hf c x1 x2) (ye (by omega))
        · refine aw_aload_n dX4_reads_70 rfl ?_
          refine aw_getI dX4_reads_71 fx_RX4_31 (by first | rfl | assumption) ?_
          refine aw_if_ne 88 dX4_reads_74 rfl (fun c74 => ?_) (fun c74 => ?_)
          · exact no (by omega)
          · have f0 : f = 0 := by omega
            subst f0
            refine aw_aload_n dX4_reads_77 rfl ?_
            refine aw_aload_n dX4_reads_78 rfl ?_
            refine aw_v1q dX4_reads_79 vl_RX4_43 (by first | rfl | assumption) (Nat.le_of_ble_eq_true rfl) (Nat.le_of_ble_eq_true rfl) (Nat.le_of_ble_eq_true rfl) (Nat.le_refl _) (Nat.le_refl _) (c_X4_readItem hR hV hb h0 h1 hl c0 c1) ?_
            intro v t' h2 hq
            obtain ⟨rfl, rfl, f1, f2, f3⟩ := hq
            refine aw_iinc (ls' := [_, _, _, _, _]) dX4_reads_82 (by decide) rfl (by omega) (by omega) rfl ?_
            refine aw_goto 43 dX4_reads_85 rfl ?_
            exact ih (i + 1) (itS b l ((p, 0), V)) h2 (by omega) f1 f2 a1 a2 a3 a4 (fun c x1 x2 => by rw [f3 c x1 x2]; exact hf c x1 x2) (ye (by omega))
end REC
