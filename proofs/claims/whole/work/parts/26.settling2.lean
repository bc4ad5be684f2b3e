section SE2
variable {t : Tp} {h : Mem}
theorem c_X6_keep {a : Nat} {kp : Nat} (hs : IsSh t a) (he : IsSe t) (ha : a + 4 < 26) (hkp : h 26 2 = (kp : Int)) (hk2 : kp < 200) :
    Sem M_X6_keep [vR 26, vR a] t h 0 0 (fun v t' h' => v = none ∧ t' = t ∧ h' 26 2 = (kp : Int) + 1 ∧ (∀ j, j ≠ 2 → h' 26 j = h 26 j) ∧ (∀ k, 0 ≤ k → k < 12 → h' (32 + kp) k = h (a + 3) k) ∧ ∀ c, c ≠ 26 → c ≠ 32 + kp → h' c = h c) := by
  obtain ⟨s0, s1, s2, s3, s4, r5, r6, r7, r8, lt⟩ := id hs
  obtain ⟨e0, e1, e2, e3, e4, e5, e6, e7⟩ := id he
  have g1 : t.2.2 31 (h 26 2) = some (32 + kp) := by rw [hkp]; exact e5 _ (by omega) (by omega)
  have g2 := e6 kp hk2
  have e9 : ∀ x : Mem, am_cpy x (a + 3) 0 (32 + kp) 0 12 26 = x 26 := fun x => am_cpy_ne (by omega)
  refine sem_intro (by decide) rfl (Nat.le_of_ble_eq_true rfl) rfl ?_
  refine aw_aload_n dX6_keep_0 rfl ?_
  refine aw_getI dX6_keep_1 fx_RX6_49 (by first | assumption | rfl) ?_
  refine aw_aload_n dX6_keep_4 rfl ?_
  refine aw_getR1 dX6_keep_5 fx_RX6_20 (by first | assumption | rfl) (by first | assumption | rfl) ?_
  refine aw_alenR dX6_keep_8 e3 (Or.inr rfl) rfl (by decide) ?_
  refine aw_icmp_ge 42 dX6_keep_9 rfl (fun c9 => ?_) (fun c9 => ?_)
  · exfalso; omega
  · refine aw_aload_n dX6_keep_12 rfl ?_
    refine aw_getR1 dX6_keep_13 fx_RX6_33 (by first | assumption | rfl) (by first | assumption | rfl) ?_
    refine aw_iconst dX6_keep_16 (by decide) (by decide) ?_
    refine aw_aload_n dX6_keep_17 rfl ?_
    refine aw_getR1 dX6_keep_18 fx_RX6_20 (by first | assumption | rfl) (by first | assumption | rfl) ?_
    refine aw_aload_n dX6_keep_21 rfl ?_
    refine aw_getI dX6_keep_22 fx_RX6_49 (by first | assumption | rfl) ?_
    refine aw_aaload1 dX6_keep_25 (by first | assumption | rfl) (by decide) (by omega) (by omega) (by first | assumption | rfl) ?_
    refine aw_iconst dX6_keep_26 (by decide) (by decide) ?_
    refine aw_bipush dX6_keep_27 (by decide) (by decide) ?_
    refine aw_copy dX6_keep_29 ac_RX6_64 (by first | assumption | rfl) (by first | assumption | rfl) (by omega) (by omega) (by omega) (by omega) (by omega) (by omega) (by omega) (by decide) (Nat.le_of_ble_eq_true rfl) ?_
    refine aw_aload_n dX6_keep_32 rfl ?_
    refine aw_dup dX6_keep_33 rfl ?_
    refine aw_getI dX6_keep_34 fx_RX6_49 (by first | assumption | rfl) ?_
    refine aw_iconst dX6_keep_37 (by decide) (by decide) ?_
    rw [e9]
    refine aw_iadd dX6_keep_38 (by omega) (by omega) ?_
    refine aw_putI dX6_keep_39 fp_RX6_49 (by first | assumption | rfl) ?_
    refine aw_return dX6_keep_42 rfl (Nat.le_refl _) (Nat.le_refl _) ?_
    refine ⟨rfl, rfl, ?_, fun j hj => ?_, fun k k0 k1 => ?_, fun c c1 c2 => ?_⟩
    · simp [am_up, hkp]
    · rw [← e9 h]; simp [am_up, hj]
    · rw [am_up_ne (by omega)]
      unfold am_cpy
      rw [if_pos ⟨rfl, by omega, by omega⟩]
      congr 1
      omega
    · rw [am_up_ne c1, am_cpy_ne c2]
theorem l_ringSince {Q : Option AV → Tp → Mem → Prop} {a N : Nat} (hs : IsSh t a) (he : IsSe t) (h0 : 0 ≤ h a 0) (h1 : h a 0 ≤ 12) (hk : Q (some (vI (find (h (a + 3)) (fun k => h (32 + k)) (h a 0).toNat N))) t h) :
    ∀ (n : Nat) (x : Int), x = (n : Int) - 1 → n ≤ 199 → find (h (a + 3)) (fun k => h (32 + k)) (h a 0).toNat N = find (h (a + 3)) (fun k => h (32 + k)) (h a 0).toNat n → AW M_X6_ringSince 0 0 Q 7 [some (vR 26), some (vR a), some (vI x)] [] t h 0 0 := by
  obtain ⟨e0, e1, e2, e3, e4, e5, e6, e7⟩ := id he
  intro n
  induction n with
  | zero =>
    intro x hx hn hf
    rw [hf] at hk
    refine aw_iload_n dX6_ringSince_7 rfl ?_
    refine aw_if_lt 32 dX6_ringSince_8 rfl (fun c8 => ?_) (fun c8 => ?_)
    · refine aw_iconst dX6_ringSince_32 (by decide) (by decide) ?_
      refine aw_ireturn dX6_ringSince_33 rfl (Nat.le_refl _) (Nat.le_refl _) ?_
      exact hk
    · exfalso; omega
  | succ n ih =>
    intro x hx hn hf
    have hx2 : x = (n : Int) := by omega
    subst hx2
    have g1 : t.2.2 31 (n : Int) = some (32 + n) := e5 _ (by omega) (by omega)
    have g2 := e6 n (by omega)
    have ef : find (h (a + 3)) (fun k => h (32 + k)) (h a 0).toNat (n + 1) = if eqg (h (a + 3)) (h (32 + n)) (h a 0).toNat = true then (n : Int) else find (h (a + 3)) (fun k => h (32 + k)) (h a 0).toNat n := rfl
    refine aw_iload_n dX6_ringSince_7 rfl ?_
    refine aw_if_lt 32 dX6_ringSince_8 rfl (fun c8 => ?_) (fun c8 => ?_)
    · exfalso; omega
    · refine aw_aload_n dX6_ringSince_11 rfl ?_
      refine aw_aload_n dX6_ringSince_12 rfl ?_
      refine aw_getR1 dX6_ringSince_13 fx_RX6_20 (by first | assumption | rfl) (by first | assumption | rfl) ?_
      refine aw_iload_n dX6_ringSince_16 rfl ?_
      refine aw_aaload1 dX6_ringSince_17 (by first | assumption | rfl) (by decide) (by omega) (by omega) (by first | assumption | rfl) ?_
      refine aw_s2i dX6_ringSince_18 sl_RX6_77 (Nat.le_of_ble_eq_true rfl) (Nat.le_of_ble_eq_true rfl) (Nat.le_of_ble_eq_true rfl) (Nat.le_refl _) (Nat.le_refl _) (c_X6_areSame hs g2 (by omega) (by omega)) ?_
      refine aw_if_eq 26 dX6_ringSince_21 rfl (fun c21 => ?_) (fun c21 => ?_)
      · refine aw_iinc (ls' := [_, _, _]) dX6_ringSince_26 (by decide) rfl (by omega) (by omega) rfl ?_
        refine aw_goto 7 dX6_ringSince_29 rfl ?_
        exact ih _ (by omega) (by omega) (by rw [hf, ef, if_neg (fun z => by rw [if_pos z] at c21; omega)])
      · refine aw_iload_n dX6_ringSince_24 rfl ?_
        refine aw_ireturn dX6_ringSince_25 rfl (Nat.le_refl _) (Nat.le_refl _) ?_
        rw [hf, ef, if_pos (by by_cases z : eqg (h (a + 3)) (h (32 + n)) (h a 0).toNat = true; exact z; rw [if_neg z] at c21; omega)] at hk
        exact hk
theorem c_X6_ringSince {a kp : Nat} (hs : IsSh t a) (he : IsSe t) (h0 : 0 ≤ h a 0) (h1 : h a 0 ≤ 12) (hkp : h 26 2 = (kp : Int) + 1) (hk2 : kp < 200) : SemE M_X6_ringSince [vR 26, vR a] t h (some (vI (find (h (a + 3)) (fun k => h (32 + k)) (h a 0).toNat kp))) t h := by
  obtain ⟨e0, e1, e2, e3, e4, e5, e6, e7⟩ := id he
  refine sem_intro (by decide) rfl (Nat.le_of_ble_eq_true rfl) rfl ?_
  refine aw_aload_n dX6_ringSince_0 rfl ?_
  refine aw_getI dX6_ringSince_1 fx_RX6_49 (by first | assumption | rfl) ?_
  refine aw_iconst dX6_ringSince_4 (by decide) (by decide) ?_
  refine aw_isub dX6_ringSince_5 (by omega) (by omega) ?_
  refine aw_istore_n (ls' := [_, _, _]) dX6_ringSince_6 (by decide) rfl ?_
  exact l_ringSince (N := kp) hs he h0 h1 ⟨rfl, rfl, rfl⟩ kp _ (by omega) (by omega) rfl
set_option maxHeartbeats 1000000 in
theorem l_freezeIf {Q : Option AV → Tp → Mem → Prop} {a s kp : Nat} {i w0 : Int} (hs : IsSh t a) (he : IsSe t) (hro : RO h) (hV : WFv (cV h a)) (h0 : 0 ≤ i) (h1 : i < h a 0) (hkp : h 26 2 = (kp : Int)) (hk2 : kp ≤ 200) (hsk : s < kp)
    (hH : ∀ k : Nat, k < kp → ∀ j, 0 ≤ j → j < h a 0 → 0 ≤ h (32 + k) j ∧ h (32 + k) j ≤ 99)
    (k : AW M_X6_freezeIfRestless 0 0 Q 65 [some (vR 26), some (vR a), some (vI i), some (vI s), some (vI (mnf (fun k => wdg (cV h a) (h (32 + (s + k))) i) w0 (kp - s))), some (vI (mxf (fun k => wdg (cV h a) (h (32 + (s + k))) i) w0 (kp - s))), none, none] [] t h 0 0) :
    ∀ (m : Nat) (j : Nat), j + m = kp - s → AW M_X6_freezeIfRestless 0 0 Q 18 [some (vR 26), some (vR a), some (vI i), some (vI s), some (vI (mnf (fun k => wdg (cV h a) (h (32 + (s + k))) i) w0 j)), some (vI (mxf (fun k => wdg (cV h a) (h (32 + (s + k))) i) w0 j)), some (vI ((s + j : Nat) : Int)), none] [] t h 0 0 := by
  obtain ⟨s0, s1, s2, s3, s4, r5, r6, r7, r8, lt⟩ := id hs
  obtain ⟨e0, e1, e2, e3, e4, e5, e6, e7⟩ := id he
  intro m
  induction m with
  | zero =>
    intro j hj
    have e9 : kp - s = j := by omega
    rw [e9] at k
    refine aw_iload dX6_freezeIfRestless_18 rfl ?_
    refine aw_aload_n dX6_freezeIfRestless_20 rfl ?_
    refine aw_getI dX6_freezeIfRestless_21 fx_RX6_49 (by first | assumption | rfl) ?_
    refine aw_icmp_ge 65 dX6_freezeIfRestless_24 rfl (fun c24 => ?_) (fun c24 => ?_)
    · exact aw_less (by repeat' (first | exact trivial | exact rfl | apply And.intro)) k
    · exfalso; omega
  | succ m ih =>
    intro j hj
    have g1 : t.2.2 31 ((s + j : Nat) : Int) = some (32 + (s + j)) := e5 _ (by omega) (by omega)
    have g2 := e6 (s + j) (by omega)
    have g3 := hH (s + j) (by omega)
    have z := ih (j + 1) (by omega)
    refine aw_iload dX6_freezeIfRestless_18 rfl ?_
    refine aw_aload_n dX6_freezeIfRestless_20 rfl ?_
    refine aw_getI dX6_freezeIfRestless_21 fx_RX6_49 (by first | assumption | rfl) ?_
    refine aw_icmp_ge 65 dX6_freezeIfRestless_24 rfl (fun c24 => ?_) (fun c24 => ?_)
    · exfalso; omega
    · refine aw_aload_n dX6_freezeIfRestless_27 rfl ?_
      refine aw_aload_n dX6_freezeIfRestless_28 rfl ?_
      refine aw_getR1 dX6_freezeIfRestless_29 fx_RX6_20 (by first | assumption | rfl) (by first | assumption | rfl) ?_
      refine aw_iload dX6_freezeIfRestless_32 rfl ?_
      refine aw_aaload1 dX6_freezeIfRestless_34 (by first | assumption | rfl) (by decide) (by omega) (by omega) (by first | assumption | rfl) ?_
      refine aw_iload_n dX6_freezeIfRestless_35 rfl ?_
      refine aw_v2i dX6_freezeIfRestless_36 vl_RX6_85 (by first | assumption | rfl) (Nat.le_of_ble_eq_true rfl) (Nat.le_of_ble_eq_true rfl) (Nat.le_of_ble_eq_true rfl) (Nat.le_refl _) (Nat.le_refl _) (c_X7_wideBy hs g2 e7 hro hV g3 h0 h1) ?_
      refine aw_istore (ls' := [_, _, _, _, _, _, _, _]) dX6_freezeIfRestless_39 (by decide) rfl ?_
      refine aw_iload dX6_freezeIfRestless_41 rfl ?_
      refine aw_iload dX6_freezeIfRestless_43 rfl ?_
      refine aw_mmin dX6_freezeIfRestless_45 mx_RX6_89 (by decide) (Nat.le_of_ble_eq_true rfl) (Nat.le_refl _) (Nat.le_refl _) ?_
      refine aw_istore (ls' := [_, _, _, _, _, _, _, _]) dX6_freezeIfRestless_48 (by decide) rfl ?_
      refine aw_iload dX6_freezeIfRestless_50 rfl ?_
      refine aw_iload dX6_freezeIfRestless_52 rfl ?_
      refine aw_mmax dX6_freezeIfRestless_54 mx_RX6_95 (by decide) (Nat.le_of_ble_eq_true rfl) (Nat.le_refl _) (Nat.le_refl _) ?_
      refine aw_istore (ls' := [_, _, _, _, _, _, _, _]) dX6_freezeIfRestless_57 (by decide) rfl ?_
      refine aw_iinc (ls' := [_, _, _, _, _, _, _, _]) dX6_freezeIfRestless_59 (by decide) rfl (by omega) (by omega) rfl ?_
      refine aw_goto 18 dX6_freezeIfRestless_62 rfl ?_
      exact aw_less (by repeat' (first | exact trivial | exact rfl | apply And.intro)) z
theorem wdg_h {a : Nat} {g g' : Int → Int} {i : Int} (hV : WFv (cV h a)) (h0 : 0 ≤ i) (h1 : i < h a 0) (hg : ∀ j : Nat, (j : Int) < h a 0 → g j = g' j) : wdg (cV h a) g i = wdg (cV h a) g' i :=
  wdg_cg hV (fun k k0 k1 => by
    have := hg k.toNat (by rw [cVc] at k1; omega)
    rwa [am_nat k0] at this) h0 (by rw [cVc]; exact h1)
set_option maxHeartbeats 1000000 in
theorem c_X6_freezeIf {a s kp : Nat} {i : Int} (hs : IsSh t a) (he : IsSe t) (ha : a + 4 < 26) (hro : RO h) (hV : WFv (cV h a)) (h0 : 0 ≤ i) (h1 : i < h a 0) (hkp : h 26 2 = (kp : Int)) (hk2 : kp ≤ 200) (hsk : s < kp)
    (hH : ∀ k : Nat, k < kp → ∀ j, 0 ≤ j → j < h a 0 → 0 ≤ h (32 + k) j ∧ h (32 + k) j ≤ 99) (hr : ∀ j : Nat, (j : Int) < h a 0 → h (a + 3) j = h (32 + s) j) :
    Sem M_X6_freezeIfRestless [vR 26, vR a, vI i, vI s] t h 0 0 (fun v t' h' => v = none ∧ t' = t ∧ h' (a + 4) i = frw (cV h a) (fun k => h (32 + k)) s kp i ∧ (∀ j, j ≠ i → h' (a + 4) j = h (a + 4) j) ∧ ∀ c, c ≠ a + 4 → h' c = h c) := by
  obtain ⟨s0, s1, s2, s3, s4, r5, r6, r7, r8, lt⟩ := id hs
  obtain ⟨e0, e1, e2, e3, e4, e5, e6, e7⟩ := id he
  have v2 := hV.2.1
  rw [cVc] at v2
  have hg : ∀ k, 0 ≤ k → k < h a 0 → 0 ≤ h (a + 3) k ∧ h (a + 3) k ≤ 99 := by
    intro k k0 k1
    have := hV.2.2.2.2.2.2.2.2 k k0 (by rw [cVc]; exact k1)
    rw [cV3 k0 k1] at this
    omega
  have ew : wdg (cV h a) (h (a + 3)) i = wdg (cV h a) (h (32 + (s + 0))) i := wdg_h hV h0 h1 hr
  have hall := mf_all (f := fun k => wdg (cV h a) (h (32 + (s + k))) i) (m := kp - s) (by omega) (fun k hk => (wdg_bd hV (fun j j0 j1 => hH (s + k) (by omega) j j0 (by rw [cVc] at j1; exact j1)) h0 (by rw [cVc]; exact h1)).1)
  rw [← ew] at hall
  have e4f : cV h a 4 i = h (a + 4) i := cV4 h0 h1
  refine sem_intro (by decide) rfl (Nat.le_of_ble_eq_true rfl) rfl ?_
  have tail : AW M_X6_freezeIfRestless 0 0 (fun v t' h' => v = none ∧ t' = t ∧ h' (a + 4) i = frw (cV h a) (fun k => h (32 + k)) s kp i ∧ (∀ j, j ≠ i → h' (a + 4) j = h (a + 4) j) ∧ ∀ c, c ≠ a + 4 → h' c = h c) 65 [some (vR 26), some (vR a), some (vI i), some (vI s), some (vI (mnf (fun k => wdg (cV h a) (h (32 + (s + k))) i) (wdg (cV h a) (h (a + 3)) i) (kp - s))), some (vI (mxf (fun k => wdg (cV h a) (h (32 + (s + k))) i) (wdg (cV h a) (h (a + 3)) i) (kp - s))), none, none] [] t h 0 0 := by
    refine aw_iload dX6_freezeIfRestless_65 rfl ?_
    refine aw_iload dX6_freezeIfRestless_67 rfl ?_
    refine aw_icmp_eq 80 dX6_freezeIfRestless_69 rfl (fun c69 => ?_) (fun c69 => ?_)
    · refine aw_return dX6_freezeIfRestless_80 rfl (Nat.le_refl _) (Nat.le_refl _) ⟨rfl, rfl, ?_, fun j _ => rfl, fun c _ => rfl⟩
      unfold frw
      rw [if_pos (hall.1.mp c69), e4f]
    · refine aw_aload_n dX6_freezeIfRestless_72 rfl ?_
      refine aw_getR1 dX6_freezeIfRestless_73 fx_RX6_98 (by first | assumption | rfl) (by first | assumption | rfl) ?_
      refine aw_iload_n dX6_freezeIfRestless_76 rfl ?_
      refine aw_iload dX6_freezeIfRestless_77 rfl ?_
      refine aw_iastore dX6_freezeIfRestless_79 (by first | assumption | rfl) (by omega) (by omega) (by omega) ?_
      refine aw_return dX6_freezeIfRestless_80 rfl (Nat.le_refl _) (Nat.le_refl _) ?_
      refine ⟨rfl, rfl, ?_, fun j hj => ?_, fun c hc => am_up_ne hc⟩
      · unfold frw
        rw [if_neg (fun z => c69 (hall.1.mpr z)), ← hall.2]
        simp [am_up]
      · simp [am_up, hj]
  refine aw_aload_n dX6_freezeIfRestless_0 rfl ?_
  refine aw_aload_n dX6_freezeIfRestless_1 rfl ?_
  refine aw_getR1 dX6_freezeIfRestless_2 fx_RX6_33 (by first | assumption | rfl) (by first | assumption | rfl) ?_
  refine aw_iload_n dX6_freezeIfRestless_5 rfl ?_
  refine aw_v2i dX6_freezeIfRestless_6 vl_RX6_85 (by first | assumption | rfl) (Nat.le_of_ble_eq_true rfl) (Nat.le_of_ble_eq_true rfl) (Nat.le_of_ble_eq_true rfl) (Nat.le_refl _) (Nat.le_refl _) (c_X7_wideBy hs s3 e7 hro hV hg h0 h1) ?_
  refine aw_istore (ls' := [_, _, _, _, _, _, _, _]) dX6_freezeIfRestless_9 (by decide) rfl ?_
  refine aw_iload dX6_freezeIfRestless_11 rfl ?_
  refine aw_istore (ls' := [_, _, _, _, _, _, _, _]) dX6_freezeIfRestless_13 (by decide) rfl ?_
  refine aw_iload_n dX6_freezeIfRestless_15 rfl ?_
  refine aw_istore (ls' := [_, _, _, _, _, _, _, _]) dX6_freezeIfRestless_16 (by decide) rfl ?_
  refine aw_less ?_ (l_freezeIf (w0 := wdg (cV h a) (h (a + 3)) i) hs he hro hV h0 h1 hkp hk2 hsk hH tail (kp - s) 0 (by omega))
  exact (by repeat' (first | exact trivial | exact rfl | apply And.intro))
/-- a sheet of which one row is another -/
theorem cV_col {a j0 : Nat} {hh : Mem} {F : Int → Int} (hj0 : 1 ≤ j0 ∧ j0 ≤ 4) (g1 : ∀ c, c ≠ a + j0 → hh c = h c) (g2 : ∀ k : Nat, (k : Int) < h a 0 → hh (a + j0) k = F k) : cV hh a = (fun j k => if j = j0 ∧ 0 ≤ k ∧ k < cV h a 0 0 then F k else cV h a j k) := by
  funext j k
  have e0 : hh a = h a := g1 a (by omega)
  by_cases hj : j = 0
  · subst hj
    rw [if_neg (by omega)]
    unfold cV cut
    rw [if_pos rfl, if_pos rfl]
    show (if _ then hh (a + 0) k else 0) = (if _ then h (a + 0) k else 0)
    rw [g1 (a + 0) (by omega)]
  · by_cases hk : j < 5 ∧ 0 ≤ k ∧ k < h a 0
    · have e1 : cV hh a j k = hh (a + j) k := cut_j hj hk.1 hk.2.1 (by show k < hh (a + 0) 0; rw [g1 (a + 0) (by omega)]; exact hk.2.2)
      have e2 : cV h a j k = h (a + j) k := cut_j hj hk.1 hk.2.1 hk.2.2
      rw [e1, e2, cVc]
      by_cases e3 : j = j0
      · subst e3
        rw [if_pos ⟨rfl, hk.2.1, hk.2.2⟩]
        have := g2 k.toNat (by omega)
        rwa [am_nat hk.2.1] at this
      · rw [if_neg (by omega), g1 (a + j) (by omega)]
    · have e1 : cV hh a j k = 0 := by
        unfold cV cut
        rw [if_neg hj, if_neg]
        show ¬ (j < 5 ∧ 0 ≤ k ∧ k < hh (a + 0) 0)
        rw [g1 (a + 0) (by omega)]
        exact hk
      have e2 : cV h a j k = 0 := by
        unfold cV cut
        rw [if_neg hj, if_neg]
        exact hk
      rw [e1, e2, cVc, if_neg (by omega)]
theorem WFv_fz {a : Nat} {hh : Mem} (hV : WFv (cV h a)) (g1 : ∀ c, c ≠ a + 4 → hh c = h c) (g2 : ∀ k : Nat, (k : Int) < h a 0 → 0 ≤ hh (a + 4) k ∧ hh (a + 4) k ≤ 20) : WFv (cV hh a) := by
  rw [cV_col (j0 := 4) (F := fun k => hh (a + 4) k) (by omega) g1 (fun k _ => rfl)]
  obtain ⟨c1, c2, c3, c4, c5, c6, c7, c8, hi⟩ := id hV
  refine ⟨c1, c2, c3, c4, c5, c6, c7, c8, fun i h0 h1 => ?_⟩
  obtain ⟨k1, k2, k3, k4, k5, k6, k7, k8⟩ := hi i h0 h1
  have h2 : i < h a 0 := by rw [← cVc (h := h) (a := a)]; exact h1
  have hb := g2 i.toNat (by omega)
  rw [am_nat h0] at hb
  refine ⟨k1, k2, k3, k4, k5, k6, ?_, ?_⟩
  · show 0 ≤ (if 4 = 4 ∧ 0 ≤ i ∧ i < cV h a 0 0 then hh (a + 4) i else cV h a 4 i)
    rw [if_pos ⟨rfl, h0, h1⟩]; exact hb.1
  · show (if 4 = 4 ∧ 0 ≤ i ∧ i < cV h a 0 0 then hh (a + 4) i else cV h a 4 i) ≤ 20
    rw [if_pos ⟨rfl, h0, h1⟩]; exact hb.2
theorem wdg_dep {V V' : VW} {g : Int → Int} {i : Int} (e1 : V 1 i = V' 1 i) (e2 : V 2 i = V' 2 i) (e4 : V 4 i = V' 4 i) : wdg V g i = wdg V' g i := by unfold wdg; rw [e1, e2, e4]
theorem frw_bd {V : VW} {H : Nat → Int → Int} {s kp : Nat} {i : Int} (hV : WFv V) (hH : ∀ k : Nat, k < kp → ∀ i, 0 ≤ i → i < V 0 0 → 1 ≤ H k i ∧ H k i ≤ 98) (h0 : 0 ≤ i) (h1 : i < V 0 0) : 0 ≤ frw V H s kp i ∧ frw V H s kp i ≤ 20 := by
  have := (frz_wf (s := s) hV hH).2.2.2.2.2.2.2.2 i h0 h1
  have e : frz V H s kp 4 i = frw V H s kp i := if_pos ⟨rfl, h0, h1⟩
  rw [e] at this
  omega
set_option maxHeartbeats 1000000 in
theorem l_freezeSince {Q : Option AV → Tp → Mem → Prop} {a s kp : Nat} (hs : IsSh t a) (he : IsSe t) (ha : a + 4 < 26) (hro : RO h) (hV : WFv (cV h a)) (hkp : h 26 2 = (kp : Int)) (hk2 : kp ≤ 200) (hsk : s < kp)
    (hH : ∀ k : Nat, k < kp → ∀ j, 0 ≤ j → j < h a 0 → 1 ≤ h (32 + k) j ∧ h (32 + k) j ≤ 98) (hr : ∀ j : Nat, (j : Int) < h a 0 → h (a + 3) j = h (32 + s) j)
    (hk : ∀ hh : Mem, (∀ c, c ≠ a + 4 → hh c = h c) → (∀ k : Nat, (k : Int) < h a 0 → hh (a + 4) k = frw (cV h a) (fun k => h (32 + k)) s kp k) → AW M_X6_freezeSince 0 0 Q 23 [some (vR 26), some (vR a), some (vI s), none] [] t hh 0 0) :
    ∀ (m : Nat) (i : Nat) (hh : Mem), (i : Int) + m = h a 0 → (∀ c, c ≠ a + 4 → hh c = h c) → (∀ k : Nat, k < i → hh (a + 4) k = frw (cV h a) (fun k => h (32 + k)) s kp k) → (∀ k : Nat, i ≤ k → hh (a + 4) k = h (a + 4) k) →
      AW M_X6_freezeSince 0 0 Q 2 [some (vR 26), some (vR a), some (vI s), some (vI i)] [] t hh 0 0 := by
  obtain ⟨s0, s1, s2, s3, s4, r5, r6, r7, r8, lt⟩ := id hs
  obtain ⟨e0, e1, e2, e3, e4, e5, e6, e7⟩ := id he
  have v1 := hV.1
  have v2 := hV.2.1
  rw [cVc] at v1 v2
  have hfb : ∀ k : Nat, (k : Int) < h a 0 → 0 ≤ frw (cV h a) (fun k => h (32 + k)) s kp k ∧ frw (cV h a) (fun k => h (32 + k)) s kp k ≤ 20 := fun k hk2 => frw_bd hV (fun k2 hk3 j j0 j1 => hH k2 hk3 j j0 (by rw [cVc] at j1; exact j1)) (by omega) (by rw [cVc]; exact hk2)
  have h4b : ∀ k : Nat, (k : Int) < h a 0 → 0 ≤ h (a + 4) k ∧ h (a + 4) k ≤ 20 := fun k hk2 => by
    have := hV.2.2.2.2.2.2.2.2 k (by omega) (by rw [cVc]; exact hk2)
    rw [cV4 (by omega) hk2] at this
    omega
  intro m
  induction m with
  | zero =>
    intro i hh hi g1 g2 g3
    have ec : hh a 0 = h a 0 := by rw [g1 a (by omega)]
    have z := hk hh g1 (fun k hk2 => g2 k (by omega))
    refine aw_iload_n dX6_freezeSince_2 rfl ?_
    refine aw_aload_n dX6_freezeSince_3 rfl ?_
    refine aw_getI dX6_freezeSince_4 fx_RX6_27 (by first | assumption | rfl) ?_
    refine aw_icmp_ge 23 dX6_freezeSince_7 rfl (fun c7 => ?_) (fun c7 => ?_)
    · exact aw_less (by repeat' (first | exact trivial | exact rfl | apply And.intro)) z
    · exfalso; omega
  | succ m ih =>
    intro i hh hi g1 g2 g3
    have ec : hh a 0 = h a 0 := by rw [g1 a (by omega)]
    have hV2 : WFv (cV hh a) := WFv_fz hV g1 (fun k hk2 => by
      by_cases e : k < i
      · rw [g2 k e]; exact hfb k hk2
      · rw [g3 k (by omega)]; exact h4b k hk2)
    have hro2 : RO hh := fun j j0 j1 => by rw [g1 1000001 (by omega)]; exact hro j j0 j1
    have eV : cV hh a = (fun j k => if j = 4 ∧ 0 ≤ k ∧ k < cV h a 0 0 then hh (a + 4) k else cV h a j k) := cV_col (j0 := 4) (F := fun k => hh (a + 4) k) (by omega) g1 (fun k _ => rfl)
    have e4i : cV hh a 4 i = cV h a 4 i := by rw [cV4 (by omega) (by omega), cV4 (by omega) (by omega), g3 i (by omega)]
    have e1i : cV hh a 1 i = cV h a 1 i := by rw [cV1 (by omega) (by omega), cV1 (by omega) (by omega), g1 (a + 1) (by omega)]
    have e2i : cV hh a 2 i = cV h a 2 i := by rw [cV2 (by omega) (by omega), cV2 (by omega) (by omega), g1 (a + 2) (by omega)]
    have ef : frw (cV hh a) (fun k => hh (32 + k)) s kp i = frw (cV h a) (fun k => h (32 + k)) s kp i := by
      have e9 : (fun k => wdg (cV hh a) (hh (32 + (s + k))) (i : Int)) = (fun k => wdg (cV h a) (h (32 + (s + k))) (i : Int)) := by
        funext k
        rw [g1 (32 + (s + k)) (by omega)]
        exact wdg_dep e1i e2i e4i
      unfold frw
      show (if alw (fun k => wdg (cV hh a) (hh (32 + (s + k))) (i : Int)) (kp - s) = true then cV hh a 4 i else mxw (fun k => wdg (cV hh a) (hh (32 + (s + k))) (i : Int)) (kp - s)) = _
      rw [e9, e4i]
    have hH2 : ∀ k : Nat, k < kp → ∀ j, 0 ≤ j → j < hh a 0 → 0 ≤ hh (32 + k) j ∧ hh (32 + k) j ≤ 99 := fun k hk2 j j0 j1 => by
      rw [g1 (32 + k) (by omega)]
      have := hH k hk2 j j0 (by omega)
      omega
    refine aw_iload_n dX6_freezeSince_2 rfl ?_
    refine aw_aload_n dX6_freezeSince_3 rfl ?_
    refine aw_getI dX6_freezeSince_4 fx_RX6_27 (by first | assumption | rfl) ?_
    refine aw_icmp_ge 23 dX6_freezeSince_7 rfl (fun c7 => ?_) (fun c7 => ?_)
    · exfalso; omega
    · refine aw_aload_n dX6_freezeSince_10 rfl ?_
      refine aw_aload_n dX6_freezeSince_11 rfl ?_
      refine aw_iload_n dX6_freezeSince_12 rfl ?_
      refine aw_iload_n dX6_freezeSince_13 rfl ?_
      refine aw_v3q dX6_freezeSince_14 vl_RX6_81 (by first | assumption | rfl) (Nat.le_of_ble_eq_true rfl) (Nat.le_of_ble_eq_true rfl) (Nat.le_of_ble_eq_true rfl) (Nat.le_refl _) (Nat.le_refl _) (c_X6_freezeIf (kp := kp) (s := s) hs he ha hro2 hV2 (by omega) (by omega) (by rw [g1 26 (by omega)]; exact hkp) hk2 hsk hH2 (fun j hj => by rw [g1 (a + 3) (by omega), g1 (32 + s) (by omega)]; exact hr j (by omega))) ?_
      intro v t' h' hq
      obtain ⟨rfl, rfl, f1, f2, f3⟩ := hq
      rw [ef] at f1
      refine aw_iinc (ls' := [_, _, _, _]) dX6_freezeSince_17 (by decide) rfl (by omega) (by omega) rfl ?_
      refine aw_goto 2 dX6_freezeSince_20 rfl ?_
      exact ih (i + 1) h' (by omega) (fun c hc => by rw [f3 c hc]; exact g1 c hc) (fun k hk2 => by
        by_cases e : k = i
        · rw [e]; exact f1
        · rw [f2 k (by omega)]; exact g2 k (by omega)) (fun k hk2 => by rw [f2 k (by omega)]; exact g3 k (by omega))
set_option maxHeartbeats 1000000 in
theorem c_X6_freezeSince {a s kp : Nat} (hs : IsSh t a) (he : IsSe t) (ha : a + 4 < 26) (hro : RO h) (hV : WFv (cV h a)) (hkp : h 26 2 = (kp : Int)) (hk2 : kp ≤ 200) (hsk : s < kp)
    (hH : ∀ k : Nat, k < kp → ∀ j, 0 ≤ j → j < h a 0 → 1 ≤ h (32 + k) j ∧ h (32 + k) j ≤ 98) (hr : ∀ j : Nat, (j : Int) < h a 0 → h (a + 3) j = h (32 + s) j) (hf0 : 0 ≤ h 26 4) (hf1 : h 26 4 ≤ 1000) :
    Sem M_X6_freezeSince [vR 26, vR a, vI s] t h 0 0 (fun v t' h' => v = none ∧ t' = t ∧ cV h' a = frz (cV h a) (fun k => h (32 + k)) s kp ∧ h' 26 2 = 0 ∧ h' 26 3 = h 26 3 ∧ h' 26 4 = h 26 4 + 1 ∧ h' 26 5 = (if h 26 4 + 1 = 1 then (kp : Int) - s else h 26 5) ∧ h' 26 6 = h 26 6 ∧ ∀ c, c ≠ a + 4 → c ≠ 26 → h' c = h c) := by
  obtain ⟨s0, s1, s2, s3, s4, r5, r6, r7, r8, lt⟩ := id hs
  obtain ⟨e0, e1, e2, e3, e4, e5, e6, e7⟩ := id he
  have v1 := hV.1
  rw [cVc] at v1
  refine sem_intro (by decide) rfl (Nat.le_of_ble_eq_true rfl) rfl ?_
  refine aw_iconst dX6_freezeSince_0 (by decide) (by decide) ?_
  refine aw_istore_n (ls' := [_, _, _, _]) dX6_freezeSince_1 (by decide) rfl ?_
  refine l_freezeSince (s := s) hs he ha hro hV hkp hk2 hsk hH hr (fun hh g1 g2 => ?_) (h a 0).toNat 0 h (by omega) (fun c _ => rfl) (fun k hk => absurd hk (by omega)) (fun k _ => rfl)
  have e26 : hh 26 = h 26 := g1 26 (by omega)
  have eV : ∀ x y z w : Int, ∀ p q r : Int, cV (am_up (am_up (am_up hh 26 p x) 26 q y) 26 r z) a = frz (cV h a) (fun k => h (32 + k)) s kp := fun x y z w p q r => by
    rw [← show cV hh a = frz (cV h a) (fun k => h (32 + k)) s kp from cV_col (j0 := 4) (by omega) g1 g2]
    exact cV_congr (fun k _ _ => by rw [am_up_ne (by omega), am_up_ne (by omega), am_up_ne (by omega)]) (fun j k _ _ _ _ => by rw [am_up_ne (by omega), am_up_ne (by omega), am_up_ne (by omega)])
  have eV2 : ∀ x y : Int, ∀ p q : Int, cV (am_up (am_up hh 26 p x) 26 q y) a = frz (cV h a) (fun k => h (32 + k)) s kp := fun x y p q => by
    rw [← show cV hh a = frz (cV h a) (fun k => h (32 + k)) s kp from cV_col (j0 := 4) (by omega) g1 g2]
    exact cV_congr (fun k _ _ => by rw [am_up_ne (by omega), am_up_ne (by omega)]) (fun j k _ _ _ _ => by rw [am_up_ne (by omega), am_up_ne (by omega)])
  refine aw_aload_n dX6_freezeSince_23 rfl ?_
  refine aw_dup dX6_freezeSince_24 rfl ?_
  refine aw_getI dX6_freezeSince_25 fx_RX6_43 (by first | assumption | rfl) ?_
  refine aw_iconst dX6_freezeSince_28 (by decide) (by decide) ?_
  rw [e26]
  refine aw_iadd dX6_freezeSince_29 (by omega) (by omega) ?_
  refine aw_putI dX6_freezeSince_30 fp_RX6_43 (by first | assumption | rfl) ?_
  refine aw_aload_n dX6_freezeSince_33 rfl ?_
  refine aw_getI dX6_freezeSince_34 fx_RX6_43 (by first | assumption | rfl) ?_
  refine aw_iconst dX6_freezeSince_37 (by decide) (by decide) ?_
  rw [show am_up hh 26 4 (h 26 4 + 1) 26 4 = h 26 4 + 1 by simp [am_up]]
  refine aw_icmp_ne 51 dX6_freezeSince_38 rfl (fun c38 => ?_) (fun c38 => ?_)
  · refine aw_aload_n dX6_freezeSince_51 rfl ?_
    refine aw_iconst dX6_freezeSince_52 (by decide) (by decide) ?_
    refine aw_putI dX6_freezeSince_53 fp_RX6_49 (by assumption) ?_
    refine aw_return dX6_freezeSince_56 rfl (Nat.le_refl _) (Nat.le_refl _) ⟨rfl, rfl, eV2 _ _ _ _, ?_, ?_, ?_, ?_, ?_, fun c c1 c2 => by rw [am_up_ne c2, am_up_ne c2]; exact g1 c c1⟩
    · simp [am_up]
    · simp [am_up, e26]
    · simp [am_up]
    · rw [if_neg c38]; simp [am_up, e26]
    · simp [am_up, e26]
  · refine aw_aload_n dX6_freezeSince_41 rfl ?_
    refine aw_aload_n dX6_freezeSince_42 rfl ?_
    refine aw_getI dX6_freezeSince_43 fx_RX6_49 (by first | assumption | rfl) ?_
    refine aw_iload_n dX6_freezeSince_46 rfl ?_
    rw [show am_up hh 26 4 (h 26 4 + 1) 26 2 = h 26 2 by simp [am_up, e26], hkp]
    refine aw_isub dX6_freezeSince_47 (by omega) (by omega) ?_
    refine aw_putI dX6_freezeSince_48 fp_RX6_46 (by first | assumption | rfl) ?_
    refine aw_aload_n dX6_freezeSince_51 rfl ?_
    refine aw_iconst dX6_freezeSince_52 (by decide) (by decide) ?_
    refine aw_putI dX6_freezeSince_53 fp_RX6_49 (by first | assumption | rfl) ?_
    refine aw_return dX6_freezeSince_56 rfl (Nat.le_refl _) (Nat.le_refl _) ?_
    refine ⟨rfl, rfl, eV _ _ _ 0 _ _ _, ?_, ?_, ?_, ?_, ?_, fun c c1 c2 => by rw [am_up_ne c2, am_up_ne c2, am_up_ne c2]; exact g1 c c1⟩
    · simp [am_up]
    · simp [am_up, e26]
    · simp [am_up]
    · rw [if_pos c38]; simp [am_up]
    · simp [am_up, e26]
end SE2
