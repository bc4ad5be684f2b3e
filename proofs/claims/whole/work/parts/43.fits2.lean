def kndP (V : VW) (i : Int) (g : Int → Int) (N : Nat) : Nat → Bool := fun k => decide (1 ≤ k ∧ mbn (V 0 0) k (V 2 i)) && cmS (setV V 1 i k) i g N
def numP (V : VW) (i : Int) (g : Int → Int) (N : Nat) : Nat → Bool := fun k => decide (mbn (V 0 0) (V 1 i) k) && cmS (setV V 2 i k) i g N
def fstP (V : VW) (i : Int) (g : Int → Int) (N : Nat) : Int → Bool := fun f => cmS (setV V 0 3 f) i g N
def cntF (P : Int → Bool) : Nat → Int
  | 0 => 0
  | m + 1 => cntF P m + (if P ((m + 1 : Nat) : Int) = true then 1 else 0)
def lstF (P : Int → Bool) : Nat → Int → Int
  | 0, _ => -1000000
  | m + 1, f => if P f = true then f else lstF P m (f + 1)
theorem cntF_bd {P : Int → Bool} : ∀ m : Nat, 0 ≤ cntF P m ∧ cntF P m ≤ m
  | 0 => by simp [cntF]
  | m + 1 => by
    have := cntF_bd (P := P) m
    unfold cntF
    split <;> omega
theorem SC2.tr {h h' h2 : Mem} (a : SC2 h h') (b : SC2 h' h2) : SC2 h h2 := fun c hc => (b c hc).trans (a c hc)
section FI2
variable {q n L : Nat} {h : Mem}
/-- what a row tells, as it lies ready -/
def EXP (h : Mem) (t : Tp) (ex : Nat) (V : VW) (it fr : Int) (N : Nat) (g : Int → Int) : Prop := cV h 16 = V ∧ WFv V ∧ RO h ∧ t.2.1 ex = (20, 40) ∧ ex < 16 ∧ h 232 5 = it ∧ h 232 7 = fr ∧ h 232 8 = (N : Int) ∧ 0 ≤ it ∧ it < V 0 0 ∧ 0 ≤ fr ∧ fr + N ≤ 40 ∧ ∀ k : Nat, k < N → h ex (fr + k) = g k
theorem EXP.tr {h' : Mem} {t : Tp} {ex : Nat} {V : VW} {it fr : Int} {N : Nat} {g : Int → Int} (hE : EXP h t ex V it fr N g) (f : SC2 h h') : EXP h' t ex V it fr N g := by
  obtain ⟨a1, a2, a3, a4, a5, a6, a7, a8, a9, a10, a11, a12, a13⟩ := hE
  refine ⟨?_, a2, fun j j0 j1 => by rw [f _ (by decide)]; exact a3 j j0 j1, a4, a5, by rw [f _ (by decide)]; exact a6, by rw [f _ (by decide)]; exact a7, by rw [f _ (by decide)]; exact a8, a9, a10, a11, a12, fun k hk => by rw [f ex (by omega)]; exact a13 k hk⟩
  rw [← a1]
  exact cV_congr (fun k _ _ => by rw [f _ (by decide)]) (fun j k _ _ _ _ => by rw [f _ (by omega)])
theorem EXP.comes {ex : Nat} {V V2 : VW} {it fr : Int} {N : Nat} {g : Int → Int} (hE : EXP h (TT ex q n L) ex V it fr N g) (hv : cV h 21 = V2) (hV2 : WFv V2) (h0 : V2 0 0 = V 0 0) :
    Sem M_X1_comesAsExpected [vR 232] (TT ex q n L) h 0 0 (fun v t' h' => v = some (vI (if cmS V2 it g N = true then 1 else 0)) ∧ t' = TT ex q n L ∧ SC2 h h') := by
  obtain ⟨a1, a2, a3, a4, a5, a6, a7, a8, a9, a10, a11, a12, a13⟩ := hE
  exact c_X1_comes hv hV2 a3 a4 (by omega) a6 a7 a8 a9 (by omega) a11 a12 a13
set_option maxHeartbeats 2000000 in
theorem l_kinds {Q : Option AV → Tp → Mem → Prop} {ex : Nat} {V : VW} {it fr : Int} {N : Nat} {g : Int → Int} (hE : EXP h (TT ex q n L) ex V it fr N g) (hk : ∀ hh : Mem, SC2 h hh → Q (some (vI (bset (kndP V it g N) 6))) (TT ex q n L) hh) :
    ∀ (m : Nat) (k : Nat) (hh : Mem), k + m = 6 → 1 ≤ k → SC2 h hh → AW M_X1_kindsAsExpected 0 0 Q 4 [some (vR 232), some (vI (bset (kndP V it g N) k)), some (vI k)] [] (TT ex q n L) hh 0 0 := by
  intro m
  induction m with
  | zero =>
    intro k hh hi hk1 hf
    have ek : k = 6 := by omega
    subst ek
    refine aw_iload_n dX1_kindsAsExpected_4 rfl ?_
    refine aw_iconst dX1_kindsAsExpected_5 (by decide) (by decide) ?_
    refine aw_icmp_gt 75 dX1_kindsAsExpected_6 rfl (fun c6 => ?_) (fun c6 => ?_)
    · refine aw_iload_n dX1_kindsAsExpected_75 rfl ?_
      refine aw_ireturn dX1_kindsAsExpected_76 rfl (Nat.le_refl _) (Nat.le_refl _) ?_
      exact hk hh hf
    · exfalso; omega
  | succ m ih =>
    intro k hh hi hk1 hf
    obtain ⟨b1, b2, b3, b4, b5, b6, b7, b8, b9, b10, b11, b12, b13⟩ := hE.tr hf
    have w2 := b2.2.1
    have e0 : hh 16 0 = V 0 0 := by rw [← b1, cVc]
    have wi := b2.2.2.2.2.2.2.2.2 it b9 b10
    have tl : ∀ (b : Int) (h4 : Mem), SC2 h h4 → bset (kndP V it g N) (k + 1) = b → AW M_X1_kindsAsExpected 0 0 Q 69 [some (vR 232), some (vI b), some (vI k)] [] (TT ex q n L) h4 0 0 := by
      intro b h4 hs hb
      have z := ih (k + 1) h4 (by omega) (by omega) hs
      rw [hb] at z
      refine aw_iinc (ls' := [_, _, _]) dX1_kindsAsExpected_69 (by decide) rfl (by omega) (by omega) rfl ?_
      refine aw_goto 4 dX1_kindsAsExpected_72 rfl ?_
      exact z
    have ekp : kndP V it g N k = (decide (1 ≤ k ∧ mbn (V 0 0) k (V 2 it)) && cmS (setV V 1 it k) it g N) := rfl
    refine aw_iload_n dX1_kindsAsExpected_4 rfl ?_
    refine aw_iconst dX1_kindsAsExpected_5 (by decide) (by decide) ?_
    refine aw_icmp_gt 75 dX1_kindsAsExpected_6 rfl (fun c6 => ?_) (fun c6 => ?_)
    · exfalso; omega
    · refine aw_aload_n dX1_kindsAsExpected_9 rfl ?_
      refine aw_getR1 dX1_kindsAsExpected_10 fx_RX1_26 (by first | rfl | assumption) (by first | rfl | assumption) ?_
      refine aw_aload_n dX1_kindsAsExpected_13 rfl ?_
      refine aw_getR1 dX1_kindsAsExpected_14 fx_RX1_22 (by first | rfl | assumption) (by first | rfl | assumption) ?_
      refine aw_v1q dX1_kindsAsExpected_17 vl_RX1_36 (by first | rfl | assumption) (Nat.le_of_ble_eq_true rfl) (Nat.le_of_ble_eq_true rfl) (Nat.le_of_ble_eq_true rfl) (Nat.le_refl _) (Nat.le_refl _) (c_X7_takeFrom sh_21 sh_16 (by decide) (by omega)) ?_
      intro v t' h1 hq
      obtain ⟨rfl, rfl, f1, f2⟩ := hq
      rw [b1] at f1
      have e21 : h1 21 0 = V 0 0 := by rw [← cVc (h := h1), f1]
      have sc1 : SC2 h h1 := hf.tr (fun c hc => f2 c (by omega))
      have e5 : h1 232 5 = it := by rw [f2 232 (by decide)]; exact b6
      refine aw_aload_n dX1_kindsAsExpected_20 rfl ?_
      refine aw_getR1 dX1_kindsAsExpected_21 fx_RX1_26 (by first | rfl | assumption) (by first | rfl | assumption) ?_
      refine aw_getR1 dX1_kindsAsExpected_24 fx_RX1_111 (by first | rfl | assumption) (by first | rfl | assumption) ?_
      refine aw_aload_n dX1_kindsAsExpected_27 rfl ?_
      refine aw_getI dX1_kindsAsExpected_28 fx_RX1_102 (by first | rfl | assumption) ?_
      rw [e5]
      refine aw_iload_n dX1_kindsAsExpected_31 rfl ?_
      refine aw_iastore dX1_kindsAsExpected_32 (by first | rfl | assumption) (by omega) (by omega) (by omega) ?_
      have eV2 : cV (am_up h1 (21 + 1) it k) 21 = setV V 1 it k := by rw [cV_set (by omega) b9 (by omega), f1]
      obtain ⟨h2, hh2⟩ : ∃ h2, h2 = am_up h1 (21 + 1) it k := ⟨_, rfl⟩
      rw [← hh2] at eV2 ⊢
      have g2 : ∀ c, c ≠ 22 → h2 c = h1 c := fun c hc => by rw [hh2]; exact am_up_ne hc
      have sc2 : SC2 h h2 := sc1.tr (fun c hc => g2 c (by omega))
      have e52 : h2 232 5 = it := by rw [g2 232 (by decide)]; exact e5
      have e212 : h2 21 0 = V 0 0 := by rw [g2 21 (by decide)]; exact e21
      have en : h2 (21 + 2) it = V 2 it := by rw [← cV2 (h := h2) (a := 21) b9 (by omega), eV2]; rfl
      refine aw_aload_n dX1_kindsAsExpected_33 rfl ?_
      refine aw_getR1 dX1_kindsAsExpected_34 fx_RX1_26 (by first | rfl | assumption) (by first | rfl | assumption) ?_
      refine aw_iload_n dX1_kindsAsExpected_37 rfl ?_
      refine aw_aload_n dX1_kindsAsExpected_38 rfl ?_
      refine aw_getR1 dX1_kindsAsExpected_39 fx_RX1_26 (by first | rfl | assumption) (by first | rfl | assumption) ?_
      refine aw_getR1 dX1_kindsAsExpected_42 fx_RX1_59 (by first | rfl | assumption) (by first | rfl | assumption) ?_
      refine aw_aload_n dX1_kindsAsExpected_45 rfl ?_
      refine aw_getI dX1_kindsAsExpected_46 fx_RX1_102 (by first | rfl | assumption) ?_
      rw [e52]
      refine aw_iaload dX1_kindsAsExpected_49 (by first | rfl | assumption) (by omega) (by omega) ?_
      rw [en]
      refine aw_v2i dX1_kindsAsExpected_50 vl_RX1_114 (by first | rfl | assumption) (Nat.le_of_ble_eq_true rfl) (Nat.le_of_ble_eq_true rfl) (Nat.le_of_ble_eq_true rfl) (Nat.le_refl _) (Nat.le_refl _) (c_X7_mayBeNumber (x := if mbn (V 0 0) k (V 2 it) then 1 else 0) sh_21 (by rw [e212]; by_cases y : mbn (V 0 0) k (V 2 it); exact Or.inl ⟨y, if_pos y⟩; exact Or.inr ⟨y, if_neg y⟩)) ?_
      refine aw_ifB_eq 69 dX1_kindsAsExpected_53 rfl (fun c53 => ?_) (fun c53 => ?_)
      · exact tl _ h2 sc2 (bset_f (by rw [ekp, decide_eq_false (fun y => c53 y.2)]; rfl))
      · refine aw_aload_n dX1_kindsAsExpected_56 rfl ?_
        refine aw_v0q dX1_kindsAsExpected_57 vl_RX1_118 (by first | rfl | assumption) (Nat.le_of_ble_eq_true rfl) (Nat.le_of_ble_eq_true rfl) (Nat.le_of_ble_eq_true rfl) (Nat.le_refl _) (Nat.le_refl _) ((hE.tr sc2).comes eV2 (setV1_wf b2 (by omega) (by omega) (fun y => by omega) (fun y => by omega)) rfl) ?_
        intro v t' h3 hq
        obtain ⟨rfl, rfl, f3⟩ := hq
        refine aw_if_eq 69 dX1_kindsAsExpected_60 rfl (fun c60 => ?_) (fun c60 => ?_)
        · exact tl _ h3 (sc2.tr f3) (bset_f (by rw [ekp, decide_eq_true ⟨hk1, c53⟩]; rw [Bool.true_and]; by_cases y : cmS (setV V 1 it k) it g N = true; rw [if_pos y] at c60; omega; simpa using y))
        · refine aw_iload_n dX1_kindsAsExpected_63 rfl ?_
          refine aw_iconst dX1_kindsAsExpected_64 (by decide) (by decide) ?_
          refine aw_iload_n dX1_kindsAsExpected_65 rfl ?_
          refine aw_ishlw dX1_kindsAsExpected_66 ?_
          refine aw_iorw dX1_kindsAsExpected_67 ?_
          refine aw_istore_n (ls' := [_, _, _]) dX1_kindsAsExpected_68 (by decide) rfl ?_
          exact tl _ h3 (sc2.tr f3) (bset_t (by rw [ekp, decide_eq_true ⟨hk1, c53⟩, Bool.true_and]; by_cases y : cmS (setV V 1 it k) it g N = true; exact y; exact absurd (if_neg y) c60))
set_option maxHeartbeats 2000000 in
theorem l_numbers {Q : Option AV → Tp → Mem → Prop} {ex : Nat} {V : VW} {it fr : Int} {N : Nat} {g : Int → Int} (hE : EXP h (TT ex q n L) ex V it fr N g) (hk : ∀ hh : Mem, SC2 h hh → Q (some (vI (bset (numP V it g N) 21))) (TT ex q n L) hh) :
    ∀ (m : Nat) (k : Nat) (hh : Mem), k + m = 21 → SC2 h hh → AW M_X1_numbersAsExpected 0 0 Q 4 [some (vR 232), some (vI (bset (numP V it g N) k)), some (vI k)] [] (TT ex q n L) hh 0 0 := by
  intro m
  induction m with
  | zero =>
    intro k hh hi hf
    have ek : k = 21 := by omega
    subst ek
    refine aw_iload_n dX1_numbersAsExpected_4 rfl ?_
    refine aw_bipush dX1_numbersAsExpected_5 (by decide) (by decide) ?_
    refine aw_icmp_gt 76 dX1_numbersAsExpected_7 rfl (fun c7 => ?_) (fun c7 => ?_)
    · refine aw_iload_n dX1_numbersAsExpected_76 rfl ?_
      refine aw_ireturn dX1_numbersAsExpected_77 rfl (Nat.le_refl _) (Nat.le_refl _) ?_
      exact hk hh hf
    · exfalso; omega
  | succ m ih =>
    intro k hh hi hf
    obtain ⟨b1, b2, b3, b4, b5, b6, b7, b8, b9, b10, b11, b12, b13⟩ := hE.tr hf
    have w2 := b2.2.1
    have e0 : hh 16 0 = V 0 0 := by rw [← b1, cVc]
    have wi := b2.2.2.2.2.2.2.2.2 it b9 b10
    have tl : ∀ (b : Int) (h4 : Mem), SC2 h h4 → bset (numP V it g N) (k + 1) = b → AW M_X1_numbersAsExpected 0 0 Q 70 [some (vR 232), some (vI b), some (vI k)] [] (TT ex q n L) h4 0 0 := by
      intro b h4 hs hb
      have z := ih (k + 1) h4 (by omega) hs
      rw [hb] at z
      refine aw_iinc (ls' := [_, _, _]) dX1_numbersAsExpected_70 (by decide) rfl (by omega) (by omega) rfl ?_
      refine aw_goto 4 dX1_numbersAsExpected_73 rfl ?_
      exact z
    have ekp : numP V it g N k = (decide (mbn (V 0 0) (V 1 it) k) && cmS (setV V 2 it k) it g N) := rfl
    refine aw_iload_n dX1_numbersAsExpected_4 rfl ?_
    refine aw_bipush dX1_numbersAsExpected_5 (by decide) (by decide) ?_
    refine aw_icmp_gt 76 dX1_numbersAsExpected_7 rfl (fun c7 => ?_) (fun c7 => ?_)
    · exfalso; omega
    · refine aw_aload_n dX1_numbersAsExpected_10 rfl ?_
      refine aw_getR1 dX1_numbersAsExpected_11 fx_RX1_26 (by first | rfl | assumption) (by first | rfl | assumption) ?_
      refine aw_aload_n dX1_numbersAsExpected_14 rfl ?_
      refine aw_getR1 dX1_numbersAsExpected_15 fx_RX1_22 (by first | rfl | assumption) (by first | rfl | assumption) ?_
      refine aw_v1q dX1_numbersAsExpected_18 vl_RX1_36 (by first | rfl | assumption) (Nat.le_of_ble_eq_true rfl) (Nat.le_of_ble_eq_true rfl) (Nat.le_of_ble_eq_true rfl) (Nat.le_refl _) (Nat.le_refl _) (c_X7_takeFrom sh_21 sh_16 (by decide) (by omega)) ?_
      intro v t' h1 hq
      obtain ⟨rfl, rfl, f1, f2⟩ := hq
      rw [b1] at f1
      have e21 : h1 21 0 = V 0 0 := by rw [← cVc (h := h1), f1]
      have sc1 : SC2 h h1 := hf.tr (fun c hc => f2 c (by omega))
      have e5 : h1 232 5 = it := by rw [f2 232 (by decide)]; exact b6
      refine aw_aload_n dX1_numbersAsExpected_21 rfl ?_
      refine aw_getR1 dX1_numbersAsExpected_22 fx_RX1_26 (by first | rfl | assumption) (by first | rfl | assumption) ?_
      refine aw_getR1 dX1_numbersAsExpected_25 fx_RX1_59 (by first | rfl | assumption) (by first | rfl | assumption) ?_
      refine aw_aload_n dX1_numbersAsExpected_28 rfl ?_
      refine aw_getI dX1_numbersAsExpected_29 fx_RX1_102 (by first | rfl | assumption) ?_
      rw [e5]
      refine aw_iload_n dX1_numbersAsExpected_32 rfl ?_
      refine aw_iastore dX1_numbersAsExpected_33 (by first | rfl | assumption) (by omega) (by omega) (by omega) ?_
      have eV2 : cV (am_up h1 (21 + 2) it k) 21 = setV V 2 it k := by rw [cV_set (by omega) b9 (by omega), f1]
      obtain ⟨h2, hh2⟩ : ∃ h2, h2 = am_up h1 (21 + 2) it k := ⟨_, rfl⟩
      rw [← hh2] at eV2 ⊢
      have g2 : ∀ c, c ≠ 23 → h2 c = h1 c := fun c hc => by rw [hh2]; exact am_up_ne hc
      have sc2 : SC2 h h2 := sc1.tr (fun c hc => g2 c (by omega))
      have e52 : h2 232 5 = it := by rw [g2 232 (by decide)]; exact e5
      have e212 : h2 21 0 = V 0 0 := by rw [g2 21 (by decide)]; exact e21
      have en : h2 (21 + 1) it = V 1 it := by rw [← cV1 (h := h2) (a := 21) b9 (by omega), eV2]; rfl
      refine aw_aload_n dX1_numbersAsExpected_34 rfl ?_
      refine aw_getR1 dX1_numbersAsExpected_35 fx_RX1_26 (by first | rfl | assumption) (by first | rfl | assumption) ?_
      refine aw_aload_n dX1_numbersAsExpected_38 rfl ?_
      refine aw_getR1 dX1_numbersAsExpected_39 fx_RX1_26 (by first | rfl | assumption) (by first | rfl | assumption) ?_
      refine aw_getR1 dX1_numbersAsExpected_42 fx_RX1_111 (by first | rfl | assumption) (by first | rfl | assumption) ?_
      refine aw_aload_n dX1_numbersAsExpected_45 rfl ?_
      refine aw_getI dX1_numbersAsExpected_46 fx_RX1_102 (by first | rfl | assumption) ?_
      rw [e52]
      refine aw_iaload dX1_numbersAsExpected_49 (by first | rfl | assumption) (by omega) (by omega) ?_
      rw [en]
      refine aw_iload_n dX1_numbersAsExpected_50 rfl ?_
      refine aw_v2i dX1_numbersAsExpected_51 vl_RX1_114 (by first | rfl | assumption) (Nat.le_of_ble_eq_true rfl) (Nat.le_of_ble_eq_true rfl) (Nat.le_of_ble_eq_true rfl) (Nat.le_refl _) (Nat.le_refl _) (c_X7_mayBeNumber (x := if mbn (V 0 0) (V 1 it) k then 1 else 0) sh_21 (by rw [e212]; by_cases y : mbn (V 0 0) (V 1 it) k; exact Or.inl ⟨y, if_pos y⟩; exact Or.inr ⟨y, if_neg y⟩)) ?_
      refine aw_ifB_eq 70 dX1_numbersAsExpected_54 rfl (fun c54 => ?_) (fun c54 => ?_)
      · exact tl _ h2 sc2 (bset_f (by rw [ekp, decide_eq_false c54]; rfl))
      · refine aw_aload_n dX1_numbersAsExpected_57 rfl ?_
        refine aw_v0q dX1_numbersAsExpected_58 vl_RX1_118 (by first | rfl | assumption) (Nat.le_of_ble_eq_true rfl) (Nat.le_of_ble_eq_true rfl) (Nat.le_of_ble_eq_true rfl) (Nat.le_refl _) (Nat.le_refl _) ((hE.tr sc2).comes eV2 (setV2_wf b2 (fun y => by omega) (fun y => by omega)) rfl) ?_
        intro v t' h3 hq
        obtain ⟨rfl, rfl, f3⟩ := hq
        refine aw_if_eq 70 dX1_numbersAsExpected_61 rfl (fun c61 => ?_) (fun c61 => ?_)
        · exact tl _ h3 (sc2.tr f3) (bset_f (by rw [ekp, decide_eq_true c54]; rw [Bool.true_and]; by_cases y : cmS (setV V 2 it k) it g N = true; rw [if_pos y] at c61; omega; simpa using y))
        · refine aw_iload_n dX1_numbersAsExpected_64 rfl ?_
          refine aw_iconst dX1_numbersAsExpected_65 (by decide) (by decide) ?_
          refine aw_iload_n dX1_numbersAsExpected_66 rfl ?_
          refine aw_ishlw dX1_numbersAsExpected_67 ?_
          refine aw_iorw dX1_numbersAsExpected_68 ?_
          refine aw_istore_n (ls' := [_, _, _]) dX1_numbersAsExpected_69 (by decide) rfl ?_
          exact tl _ h3 (sc2.tr f3) (bset_t (by rw [ekp, decide_eq_true c54, Bool.true_and]; by_cases y : cmS (setV V 2 it k) it g N = true; exact y; exact absurd (if_neg y) c61))
set_option maxHeartbeats 2000000 in
theorem l_firsts {Q : Option AV → Tp → Mem → Prop} {ex : Nat} {V : VW} {it fr : Int} {N : Nat} {g : Int → Int} {mn : Int} (hE : EXP h (TT ex q n L) ex V it fr N g) (hk : ∀ hh : Mem, SC2 h hh → Q (some (vI (if mn = 0 then lstF (fstP V it g N) 87 1 else cntF (fstP V it g N) 87))) (TT ex q n L) hh) :
    ∀ (m : Nat) (k : Nat) (hh : Mem), k + m = 87 → SC2 h hh → (mn = 0 → lstF (fstP V it g N) 87 1 = lstF (fstP V it g N) m ((k + 1 : Nat) : Int)) → AW M_X1_firstsAsExpected 0 0 Q 4 [some (vR 232), some (vI mn), some (vI (if mn = 0 then 0 else cntF (fstP V it g N) k)), some (vI ((k + 1 : Nat) : Int))] [] (TT ex q n L) hh 0 0 := by
  intro m
  induction m with
  | zero =>
    intro k hh hi hf hl
    have ek : k = 87 := by omega
    subst ek
    have z := hk hh hf
    refine aw_iload_n dX1_firstsAsExpected_4 rfl ?_
    refine aw_bipush dX1_firstsAsExpected_5 (by decide) (by decide) ?_
    refine aw_icmp_gt 51 dX1_firstsAsExpected_7 rfl (fun c7 => ?_) (fun c7 => ?_)
    · refine aw_iload_n dX1_firstsAsExpected_51 rfl ?_
      refine aw_if_eq 59 dX1_firstsAsExpected_52 rfl (fun c52 => ?_) (fun c52 => ?_)
      · refine aw_ldc (n := -1000000) dX1_firstsAsExpected_59 kc_RX1_101 (by decide) ?_
        refine aw_ireturn dX1_firstsAsExpected_61 rfl (Nat.le_refl _) (Nat.le_refl _) ?_
        rw [if_pos c52, hl c52] at z
        exact z
      · refine aw_iload_n dX1_firstsAsExpected_55 rfl ?_
        refine aw_goto 61 dX1_firstsAsExpected_56 rfl ?_
        refine aw_ireturn dX1_firstsAsExpected_61 rfl (Nat.le_refl _) (Nat.le_refl _) ?_
        rw [if_neg c52] at z ⊢
        exact z
    · exfalso; omega
  | succ m ih =>
    intro k hh hi hf hl
    obtain ⟨b1, b2, b3, b4, b5, b6, b7, b8, b9, b10, b11, b12, b13⟩ := hE.tr hf
    have w2 := b2.2.1
    have e0 : hh 16 0 = V 0 0 := by rw [← b1, cVc]
    have hcb := cntF_bd (P := fstP V it g N) k
    have hV2 : WFv (setV V 0 3 ((k + 1 : Nat) : Int)) := setV0_wf b2 (by omega) (by omega)
    have el : lstF (fstP V it g N) (m + 1) ((k + 1 : Nat) : Int) = if fstP V it g N ((k + 1 : Nat) : Int) = true then ((k + 1 : Nat) : Int) else lstF (fstP V it g N) m (((k + 1 : Nat) : Int) + 1) := rfl
    have ec : cntF (fstP V it g N) (k + 1) = cntF (fstP V it g N) k + (if fstP V it g N ((k + 1 : Nat) : Int) = true then 1 else 0) := rfl
    have tl : ∀ (b : Int) (h4 : Mem), SC2 h h4 → (if mn = 0 then 0 else cntF (fstP V it g N) (k + 1)) = b → (mn = 0 → fstP V it g N ((k + 1 : Nat) : Int) ≠ true) → AW M_X1_firstsAsExpected 0 0 Q 45 [some (vR 232), some (vI mn), some (vI b), some (vI ((k + 1 : Nat) : Int))] [] (TT ex q n L) h4 0 0 := by
      intro b h4 hs hb hn
      have z := ih (k + 1) h4 (by omega) hs (fun y => by rw [hl y, el, if_neg (hn y)]; rfl)
      rw [hb] at z
      refine aw_iinc (ls' := [_, _, _, _]) dX1_firstsAsExpected_45 (by decide) rfl (by omega) (by omega) rfl ?_
      refine aw_goto 4 dX1_firstsAsExpected_48 rfl ?_
      exact z
    refine aw_iload_n dX1_firstsAsExpected_4 rfl ?_
    refine aw_bipush dX1_firstsAsExpected_5 (by decide) (by decide) ?_
    refine aw_icmp_gt 51 dX1_firstsAsExpected_7 rfl (fun c7 => ?_) (fun c7 => ?_)
    · exfalso; omega
    · refine aw_aload_n dX1_firstsAsExpected_10 rfl ?_
      refine aw_getR1 dX1_firstsAsExpected_11 fx_RX1_26 (by first | rfl | assumption) (by first | rfl | assumption) ?_
      refine aw_aload_n dX1_firstsAsExpected_14 rfl ?_
      refine aw_getR1 dX1_firstsAsExpected_15 fx_RX1_22 (by first | rfl | assumption) (by first | rfl | assumption) ?_
      refine aw_v1q dX1_firstsAsExpected_18 vl_RX1_36 (by first | rfl | assumption) (Nat.le_of_ble_eq_true rfl) (Nat.le_of_ble_eq_true rfl) (Nat.le_of_ble_eq_true rfl) (Nat.le_refl _) (Nat.le_refl _) (c_X7_takeFrom sh_21 sh_16 (by decide) (by omega)) ?_
      intro v t' h1 hq
      obtain ⟨rfl, rfl, f1, f2⟩ := hq
      rw [b1] at f1
      have sc1 : SC2 h h1 := hf.tr (fun c hc => f2 c (by omega))
      refine aw_aload_n dX1_firstsAsExpected_21 rfl ?_
      refine aw_getR1 dX1_firstsAsExpected_22 fx_RX1_26 (by first | rfl | assumption) (by first | rfl | assumption) ?_
      refine aw_iload_n dX1_firstsAsExpected_25 rfl ?_
      refine aw_putI dX1_firstsAsExpected_26 fp_RX1_95 (by first | rfl | assumption) ?_
      have eV2 : cV (am_up h1 21 3 ((k + 1 : Nat) : Int)) 21 = setV V 0 3 ((k + 1 : Nat) : Int) := by rw [cV_setS (by decide) (by decide), f1]
      obtain ⟨h2, hh2⟩ : ∃ h2, h2 = am_up h1 21 3 ((k + 1 : Nat) : Int) := ⟨_, rfl⟩
      rw [← hh2] at eV2 ⊢
      have g2 : ∀ c, c ≠ 21 → h2 c = h1 c := fun c hc => by rw [hh2]; exact am_up_ne hc
      have sc2 : SC2 h h2 := sc1.tr (fun c hc => g2 c (by omega))
      refine aw_aload_n dX1_firstsAsExpected_29 rfl ?_
      refine aw_v0q dX1_firstsAsExpected_30 vl_RX1_118 (by first | rfl | assumption) (Nat.le_of_ble_eq_true rfl) (Nat.le_of_ble_eq_true rfl) (Nat.le_of_ble_eq_true rfl) (Nat.le_refl _) (Nat.le_refl _) ((hE.tr sc2).comes eV2 hV2 rfl) ?_
      intro v t' h3 hq
      obtain ⟨rfl, rfl, f3⟩ := hq
      have sc3 := sc2.tr f3
      refine aw_if_eq 45 dX1_firstsAsExpected_33 rfl (fun c33 => ?_) (fun c33 => ?_)
      · have y : ¬ fstP V it g N ((k + 1 : Nat) : Int) = true := fun y => by rw [show cmS (setV V 0 3 ((k + 1 : Nat) : Int)) it g N = true from y, if_pos rfl] at c33; omega
        exact tl _ h3 sc3 (by rw [ec, if_neg y, Int.add_zero]) (fun _ => y)
      · have y : fstP V it g N ((k + 1 : Nat) : Int) = true := by by_cases y : fstP V it g N ((k + 1 : Nat) : Int) = true; exact y; exact absurd (if_neg y) c33
        refine aw_iload_n dX1_firstsAsExpected_36 rfl ?_
        refine aw_if_ne 42 dX1_firstsAsExpected_37 rfl (fun c37 => ?_) (fun c37 => ?_)
        · rw [if_neg c37]
          refine aw_iinc (ls' := [_, _, _, _]) dX1_firstsAsExpected_42 (by decide) rfl (by omega) (by omega) rfl ?_
          exact tl _ h3 sc3 (by rw [if_neg c37, ec, if_pos y]) (fun y2 => absurd y2 c37)
        · refine aw_iload_n dX1_firstsAsExpected_40 rfl ?_
          refine aw_ireturn dX1_firstsAsExpected_41 rfl (Nat.le_refl _) (Nat.le_refl _) ?_
          have z := hk h3 sc3
          rw [if_pos c37, hl c37, el, if_pos y] at z
          exact z
theorem c_X1_kinds {ex : Nat} {V : VW} {it fr : Int} {N : Nat} {g : Int → Int} (hE : EXP h (TT ex q n L) ex V it fr N g) : Sem M_X1_kindsAsExpected [vR 232] (TT ex q n L) h 0 0 (fun v t' h' => v = some (vI (bset (kndP V it g N) 6)) ∧ t' = TT ex q n L ∧ SC2 h h') := by
  refine sem_intro (by decide) rfl (Nat.le_of_ble_eq_true rfl) rfl ?_
  refine aw_iconst dX1_kindsAsExpected_0 (by decide) (by decide) ?_
  refine aw_istore_n (ls' := [_, _, _]) dX1_kindsAsExpected_1 (by decide) rfl ?_
  refine aw_iconst dX1_kindsAsExpected_2 (by decide) (by decide) ?_
  refine aw_istore_n (ls' := [_, _, _]) dX1_kindsAsExpected_3 (by decide) rfl ?_
  exact l_kinds hE (fun hh f => ⟨rfl, rfl, f⟩) 5 1 h (by omega) (by omega) (fun _ _ => rfl)
theorem c_X1_numbers {ex : Nat} {V : VW} {it fr : Int} {N : Nat} {g : Int → Int} (hE : EXP h (TT ex q n L) ex V it fr N g) : Sem M_X1_numbersAsExpected [vR 232] (TT ex q n L) h 0 0 (fun v t' h' => v = some (vI (bset (numP V it g N) 21)) ∧ t' = TT ex q n L ∧ SC2 h h') := by
  refine sem_intro (by decide) rfl (Nat.le_of_ble_eq_true rfl) rfl ?_
  refine aw_iconst dX1_numbersAsExpected_0 (by decide) (by decide) ?_
  refine aw_istore_n (ls' := [_, _, _]) dX1_numbersAsExpected_1 (by decide) rfl ?_
  refine aw_iconst dX1_numbersAsExpected_2 (by decide) (by decide) ?_
  refine aw_istore_n (ls' := [_, _, _]) dX1_numbersAsExpected_3 (by decide) rfl ?_
  exact l_numbers hE (fun hh f => ⟨rfl, rfl, f⟩) 21 0 h (by omega) (fun _ _ => rfl)
theorem c_X1_firsts {ex : Nat} {V : VW} {it fr : Int} {N : Nat} {g : Int → Int} {mn : Int} (hE : EXP h (TT ex q n L) ex V it fr N g) : Sem M_X1_firstsAsExpected [vR 232, vI mn] (TT ex q n L) h 0 0 (fun v t' h' => v = some (vI (if mn = 0 then lstF (fstP V it g N) 87 1 else cntF (fstP V it g N) 87)) ∧ t' = TT ex q n L ∧ SC2 h h') := by
  refine sem_intro (by decide) rfl (Nat.le_of_ble_eq_true rfl) rfl ?_
  refine aw_iconst dX1_firstsAsExpected_0 (by decide) (by decide) ?_
  refine aw_istore_n (ls' := [_, _, _, _]) dX1_firstsAsExpected_1 (by decide) rfl ?_
  refine aw_iconst dX1_firstsAsExpected_2 (by decide) (by decide) ?_
  refine aw_istore_n (ls' := [_, _, _, _]) dX1_firstsAsExpected_3 (by decide) rfl ?_
  refine aw_less ?_ (l_firsts (mn := mn) hE (fun hh f => ⟨rfl, rfl, f⟩) 87 0 h (by omega) (fun _ _ => rfl) (fun _ => rfl))
  refine ⟨rfl, rfl, ?_, rfl, trivial⟩
  show some (vI 0) = some (vI (if mn = 0 then 0 else 0))
  split <;> rfl
end FI2
