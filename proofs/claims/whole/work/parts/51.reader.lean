def RD (b : Int → Int) (l : Int) (h : Mem) (x : Int × Int) : Prop := h 14 1 = l ∧ h 14 2 = x.1 ∧ h 14 3 = x.2 ∧ ∀ j, 0 ≤ j → j < l → h 13 j = b j
section REA
variable {e n L : Nat} {h : Mem} {b : Int → Int} {l : Int} {x : Int × Int}
theorem c_X4_readSign {s : Int} (hR : RD b l h x) (hb : ∀ j, 0 ≤ j → j < l → 0 ≤ b j ∧ b j ≤ 255) (h0 : 0 ≤ x.1) (h1 : x.1 ≤ l) (hl : l ≤ 80) : Sem M_X4_readSign [vR 14, vI s] (TT e 13 n L) h 0 0 (fun v t' h' => v = none ∧ t' = TT e 13 n L ∧ RD b l h' (sgS b l s x) ∧ ∀ c, c ≠ 14 → h' c = h c) := by
  obtain ⟨r1, r2, r3, r4⟩ := id hR
  unfold sgS
  refine sem_intro (by decide) rfl (Nat.le_of_ble_eq_true rfl) rfl ?_
  refine aw_aload_n dX4_readSign_0 rfl ?_
  refine aw_getI dX4_readSign_1 fx_RX4_28 (by first | rfl | assumption) ?_
  refine aw_if_eq 8 dX4_readSign_4 rfl (fun c4 => ?_) (fun c4 => ?_)
  · refine aw_aload_n dX4_readSign_8 rfl ?_
    refine aw_getI dX4_readSign_9 fx_RX4_25 (by first | rfl | assumption) ?_
    refine aw_aload_n dX4_readSign_12 rfl ?_
    refine aw_getI dX4_readSign_13 fx_RX4_21 (by first | rfl | assumption) ?_
    rw [r1, r2]
    refine aw_icmp_ge 45 dX4_readSign_16 rfl (fun c16 => ?_) (fun c16 => ?_)
    · refine aw_aload_n dX4_readSign_45 rfl ?_
      refine aw_iconst dX4_readSign_46 (by decide) (by decide) ?_
      refine aw_putI dX4_readSign_47 fp_RX4_28 (by first | rfl | assumption) ?_
      refine aw_return dX4_readSign_50 rfl (Nat.le_refl _) (Nat.le_refl _) ?_
      rw [if_neg (by omega), if_neg (by omega)]
      exact ⟨rfl, rfl, ⟨by simp [am_up]; exact r1, by simp [am_up]; exact r2, by simp [am_up], fun j j0 j1 => by rw [am_up_ne (by decide)]; exact r4 j j0 j1⟩, fun c hc => am_up_ne hc⟩
    · refine aw_aload_n dX4_readSign_19 rfl ?_
      refine aw_getR1 dX4_readSign_20 fx_RX4_9 (by first | rfl | assumption) (by first | rfl | assumption) ?_
      refine aw_aload_n dX4_readSign_23 rfl ?_
      refine aw_getI dX4_readSign_24 fx_RX4_25 (by first | rfl | assumption) ?_
      rw [r2]
      refine aw_iaload dX4_readSign_27 (by first | rfl | assumption) (by omega) (by omega) ?_
      rw [r4 x.1 (by omega) (by omega)]
      refine aw_iload_n dX4_readSign_28 rfl ?_
      refine aw_icmp_ne 45 dX4_readSign_29 rfl (fun c29 => ?_) (fun c29 => ?_)
      · refine aw_aload_n dX4_readSign_45 rfl ?_
        refine aw_iconst dX4_readSign_46 (by decide) (by decide) ?_
        refine aw_putI dX4_readSign_47 fp_RX4_28 (by first | rfl | assumption) ?_
        refine aw_return dX4_readSign_50 rfl (Nat.le_refl _) (Nat.le_refl _) ?_
        rw [if_neg (by omega), if_neg (by omega)]
        exact ⟨rfl, rfl, ⟨by simp [am_up]; exact r1, by simp [am_up]; exact r2, by simp [am_up], fun j j0 j1 => by rw [am_up_ne (by decide)]; exact r4 j j0 j1⟩, fun c hc => am_up_ne hc⟩
      · refine aw_aload_n dX4_readSign_32 rfl ?_
        refine aw_dup dX4_readSign_33 rfl ?_
        refine aw_getI dX4_readSign_34 fx_RX4_25 (by first | rfl | assumption) ?_
        refine aw_iconst dX4_readSign_37 (by decide) (by decide) ?_
        refine aw_iadd dX4_readSign_38 (by omega) (by omega) ?_
        refine aw_putI dX4_readSign_39 fp_RX4_25 (by first | rfl | assumption) ?_
        refine aw_goto 50 dX4_readSign_42 rfl ?_
        refine aw_return dX4_readSign_50 rfl (Nat.le_refl _) (Nat.le_refl _) ?_
        rw [if_neg (by omega), if_pos ⟨by omega, by omega⟩]
        exact ⟨rfl, rfl, ⟨by simp [am_up]; exact r1, by simp [am_up]; omega, by simp [am_up]; omega, fun j j0 j1 => by rw [am_up_ne (by decide)]; exact r4 j j0 j1⟩, fun c hc => am_up_ne hc⟩
  · refine aw_return dX4_readSign_7 rfl (Nat.le_refl _) (Nat.le_refl _) ?_
    rw [if_pos (by omega)]
    exact ⟨rfl, rfl, hR, fun _ _ => rfl⟩
theorem c_X4_kindOf {t : Tp} {v : Int} : SemE M_X4_kindOf [vI v] t h (some (vI (kdS v))) t h := by
  refine sem_intro (by decide) rfl (Nat.le_of_ble_eq_true rfl) rfl ?_
  refine aw_iload_n dX4_kindOf_0 rfl ?_
  refine aw_table 86 dX4_kindOf_1 rfl (fun c1 => ?_) (fun g1a g1b => ?_)
  · refine aw_ldc (n := -1000000) dX4_kindOf_86 kc_RX4_72 (by decide) ?_
    refine aw_ireturn dX4_kindOf_88 rfl (Nat.le_refl _) (Nat.le_refl _) ?_
    refine ⟨am_ri ?_, rfl, rfl⟩
    unfold kdS
    rw [if_neg (by omega), if_neg (by omega), if_neg (by omega), if_neg (by omega), if_neg (by omega)]
  · rcases tcs_102_116 g1a g1b with c1 | c1 | c1 | c1 | c1 | c1 | c1 | c1 | c1 | c1 | c1 | c1 | c1 | c1 | c1
    · refine aw_tableIn 84 dX4_kindOf_1 g1a g1b (by rw [c1]; rfl) rfl ?_
      refine aw_iconst dX4_kindOf_84 (by decide) (by decide) ?_
      refine aw_ireturn dX4_kindOf_85 rfl (Nat.le_refl _) (Nat.le_refl _) ?_
      subst c1
      exact ⟨rfl, rfl, rfl⟩
    · refine aw_tableIn 86 dX4_kindOf_1 g1a g1b (by rw [c1]; rfl) rfl ?_
      refine aw_ldc (n := -1000000) dX4_kindOf_86 kc_RX4_72 (by decide) ?_
      refine aw_ireturn dX4_kindOf_88 rfl (Nat.le_refl _) (Nat.le_refl _) ?_
      refine ⟨am_ri ?_, rfl, rfl⟩
      unfold kdS
      rw [if_neg (by omega), if_neg (by omega), if_neg (by omega), if_neg (by omega), if_neg (by omega)]
    · refine aw_tableIn 86 dX4_kindOf_1 g1a g1b (by rw [c1]; rfl) rfl ?_
      refine aw_ldc (n := -1000000) dX4_kindOf_86 kc_RX4_72 (by decide) ?_
      refine aw_ireturn dX4_kindOf_88 rfl (Nat.le_refl _) (Nat.le_refl _) ?_
      refine ⟨am_ri ?_, rfl, rfl⟩
      unfold kdS
      rw [if_neg (by omega), if_neg (by omega), if_neg (by omega), if_neg (by omega), if_neg (by omega)]
    · refine aw_tableIn 86 dX4_kindOf_1 g1a g1b (by rw [c1]; rfl) rfl ?_
      refine aw_ldc (n := -1000000) dX4_kindOf_86 kc_RX4_72 (by decide) ?_
      refine aw_ireturn dX4_kindOf_88 rfl (Nat.le_refl _) (Nat.le_refl _) ?_
      refine ⟨am_ri ?_, rfl, rfl⟩
      unfold kdS
      rw [if_neg (by omega), if_neg (by omega), if_neg (by omega), if_neg (by omega), if_neg (by omega)]
    · refine aw_tableIn 86 dX4_kindOf_1 g1a g1b (by rw [c1]; rfl) rfl ?_
      refine aw_ldc (n := -1000000) dX4_kindOf_86 kc_RX4_72 (by decide) ?_
      refine aw_ireturn dX4_kindOf_88 rfl (Nat.le_refl _) (Nat.le_refl _) ?_
      refine ⟨am_ri ?_, rfl, rfl⟩
      unfold kdS
      rw [if_neg (by omega), if_neg (by omega), if_neg (by omega), if_neg (by omega), if_neg (by omega)]
    · refine aw_tableIn 78 dX4_kindOf_1 g1a g1b (by rw [c1]; rfl) rfl ?_
      refine aw_iconst dX4_kindOf_78 (by decide) (by decide) ?_
      refine aw_ireturn dX4_kindOf_79 rfl (Nat.le_refl _) (Nat.le_refl _) ?_
      subst c1
      exact ⟨rfl, rfl, rfl⟩
    · refine aw_tableIn 86 dX4_kindOf_1 g1a g1b (by rw [c1]; rfl) rfl ?_
      refine aw_ldc (n := -1000000) dX4_kindOf_86 kc_RX4_72 (by decide) ?_
      refine aw_ireturn dX4_kindOf_88 rfl (Nat.le_refl _) (Nat.le_refl _) ?_
      refine ⟨am_ri ?_, rfl, rfl⟩
      unfold kdS
      rw [if_neg (by omega), if_neg (by omega), if_neg (by omega), if_neg (by omega), if_neg (by omega)]
    · refine aw_tableIn 82 dX4_kindOf_1 g1a g1b (by rw [c1]; rfl) rfl ?_
      refine aw_iconst dX4_kindOf_82 (by decide) (by decide) ?_
      refine aw_ireturn dX4_kindOf_83 rfl (Nat.le_refl _) (Nat.le_refl _) ?_
      subst c1
      exact ⟨rfl, rfl, rfl⟩
    · refine aw_tableIn 86 dX4_kindOf_1 g1a g1b (by rw [c1]; rfl) rfl ?_
      refine aw_ldc (n := -1000000) dX4_kindOf_86 kc_RX4_72 (by decide) ?_
      refine aw_ireturn dX4_kindOf_88 rfl (Nat.le_refl _) (Nat.le_refl _) ?_
      refine ⟨am_ri ?_, rfl, rfl⟩
      unfold kdS
      rw [if_neg (by omega), if_neg (by omega), if_neg (by omega), if_neg (by omega), if_neg (by omega)]
    · refine aw_tableIn 86 dX4_kindOf_1 g1a g1b (by rw [c1]; rfl) rfl ?_
      refine aw_ldc (n := -1000000) dX4_kindOf_86 kc_RX4_72 (by decide) ?_
      refine aw_ireturn dX4_kindOf_88 rfl (Nat.le_refl _) (Nat.le_refl _) ?_
      refine ⟨am_ri ?_, rfl, rfl⟩
      unfold kdS
      rw [if_neg (by omega), if_neg (by omega), if_neg (by omega), if_neg (by omega), if_neg (by omega)]
    · refine aw_tableIn 86 dX4_kindOf_1 g1a g1b (by rw [c1]; rfl) rfl ?_
      refine aw_ldc (n := -1000000) dX4_kindOf_86 kc_RX4_72 (by decide) ?_
      refine aw_ireturn dX4_kindOf_88 rfl (Nat.le_refl _) (Nat.le_refl _) ?_
      refine ⟨am_ri ?_, rfl, rfl⟩
      unfold kdS
      rw [if_neg (by omega), if_neg (by omega), if_neg (by omega), if_neg (by omega), if_neg (by omega)]
    · refine aw_tableIn 86 dX4_kindOf_1 g1a g1b (by rw [c1]; rfl) rfl ?_
      refine aw_ldc (n := -1000000) dX4_kindOf_86 kc_RX4_72 (by decide) ?_
      refine aw_ireturn dX4_kindOf_88 rfl (Nat.le_refl _) (Nat.le_refl _) ?_
      refine ⟨am_ri ?_, rfl, rfl⟩
      unfold kdS
      rw [if_neg (by omega), if_neg (by omega), if_neg (by omega), if_neg (by omega), if_neg (by omega)]
    · refine aw_tableIn 80 dX4_kindOf_1 g1a g1b (by rw [c1]; rfl) rfl ?_
      refine aw_iconst dX4_kindOf_80 (by decide) (by decide) ?_
      refine aw_ireturn dX4_kindOf_81 rfl (Nat.le_refl _) (Nat.le_refl _) ?_
      subst c1
      exact ⟨rfl, rfl, rfl⟩
    · refine aw_tableIn 86 dX4_kindOf_1 g1a g1b (by rw [c1]; rfl) rfl ?_
      refine aw_ldc (n := -1000000) dX4_kindOf_86 kc_RX4_72 (by decide) ?_
      refine aw_ireturn dX4_kindOf_88 rfl (Nat.le_refl _) (Nat.le_refl _) ?_
      refine ⟨am_ri ?_, rfl, rfl⟩
      unfold kdS
      rw [if_neg (by omega), if_neg (by omega), if_neg (by omega), if_neg (by omega), if_neg (by omega)]
    · refine aw_tableIn 76 dX4_kindOf_1 g1a g1b (by rw [c1]; rfl) rfl ?_
      refine aw_iconst dX4_kindOf_76 (by decide) (by decide) ?_
      refine aw_ireturn dX4_kindOf_77 rfl (Nat.le_refl _) (Nat.le_refl _) ?_
      subst c1
      exact ⟨rfl, rfl, rfl⟩
theorem pvl_b {b : Int → Int} {l p : Int} : ∀ k : Nat, (∀ j : Nat, j < k → dgtD b l (p + j) = true) → 0 ≤ pvl b p k ∧ (k ≤ 3 → pvl b p k ≤ 999) ∧ (k ≤ 2 → pvl b p k ≤ 99) ∧ (k ≤ 1 → pvl b p k ≤ 9) ∧ (k ≤ 0 → pvl b p k ≤ 0)
  | 0, _ => by show (0 : Int) ≤ 0 ∧ _; exact ⟨Int.le_refl 0, fun _ => by show (0 : Int) ≤ _; decide, fun _ => by show (0 : Int) ≤ _; decide, fun _ => by show (0 : Int) ≤ _; decide, fun _ => by show (0 : Int) ≤ _; decide⟩
  | k + 1, h => by
    obtain ⟨a, c1, c2, c3, c4⟩ := pvl_b k (fun j hj => h j (by omega))
    have d := of_decide_eq_true (h k (by omega))
    show 0 ≤ pvl b p k * 10 + b (p + k) - 48 ∧ (k + 1 ≤ 3 → pvl b p k * 10 + b (p + k) - 48 ≤ 999) ∧ (k + 1 ≤ 2 → pvl b p k * 10 + b (p + k) - 48 ≤ 99) ∧ (k + 1 ≤ 1 → pvl b p k * 10 + b (p + k) - 48 ≤ 9) ∧ (k + 1 ≤ 0 → pvl b p k * 10 + b (p + k) - 48 ≤ 0)
    refine ⟨by omega, fun z => ?_, fun z => ?_, fun z => ?_, fun z => ?_⟩
    · have := c2 (by omega); omega
    · have := c3 (by omega); omega
    · have := c4 (by omega); omega
    · omega
theorem l_readNumber {Q : Option AV → Tp → Mem → Prop} {lo hi : Int} (hR : RD b l h x) (h0 : 0 ≤ x.1) (h1 : x.1 ≤ l) (hl : l ≤ 80)
    (hk : AW M_X4_readNumber 0 0 Q 80 [some (vR 14), some (vI lo), some (vI hi), some (vI (x.1 + nd3 b l x.1)), some (vI (pvl b x.1 (nd3 b l x.1)))] [] (TT e 13 n L) h 0 0) :
    ∀ (m k : Nat), k + m = 3 → (∀ j : Nat, j < k → dgtD b l (x.1 + j) = true) → AW M_X4_readNumber 0 0 Q 17 [some (vR 14), some (vI lo), some (vI hi), some (vI (x.1 + k)), some (vI (pvl b x.1 k))] [] (TT e 13 n L) h 0 0 := by
  obtain ⟨r1, r2, r3, r4⟩ := id hR
  intro m
  induction m with
  | zero =>
    intro k hkm hd
    have ek : k = 3 := by omega
    subst ek
    rw [nd3_is (k := 3) (by omega) hd (Or.inl rfl)] at hk
    refine aw_iload_n dX4_readNumber_17 rfl ?_
    refine aw_aload_n dX4_readNumber_18 rfl ?_
    refine aw_getI dX4_readNumber_19 fx_RX4_21 (by first | rfl | assumption) ?_
    rw [r1]
    refine aw_icmp_ge 80 dX4_readNumber_22 rfl (fun c22 => ?_) (fun c22 => ?_)
    · exact hk
    · refine aw_iload_n dX4_readNumber_25 rfl ?_
      refine aw_aload_n dX4_readNumber_26 rfl ?_
      refine aw_getI dX4_readNumber_27 fx_RX4_25 (by first | rfl | assumption) ?_
      refine aw_iconst dX4_readNumber_30 (by decide) (by decide) ?_
      rw [r2]
      refine aw_iadd dX4_readNumber_31 (by omega) (by omega) ?_
      refine aw_icmp_ge 80 dX4_readNumber_32 rfl (fun c32 => ?_) (fun c32 => ?_)
      · exact hk
      · exfalso; omega
  | succ m ih =>
    intro k hkm hd
    have pb := pvl_b k hd
    have z := ih (k + 1) (by omega)
    have ep : pvl b x.1 (k + 1) = pvl b x.1 k * 10 + b (x.1 + k) - 48 := rfl
    rw [ep, Int.natCast_succ, ← Int.add_assoc] at z
    have no : ¬ (x.1 + k < l ∧ 48 ≤ b (x.1 + k) ∧ b (x.1 + k) ≤ 57) → AW M_X4_readNumber 0 0 Q 80 [some (vR 14), some (vI lo), some (vI hi), some (vI (x.1 + k)), some (vI (pvl b x.1 k))] [] (TT e 13 n L) h 0 0 := by
      intro y
      rw [nd3_is (k := k) (by omega) hd (Or.inr (decide_eq_false y))] at hk
      exact hk
    have p9 := pb.2.2.1 (by omega)
    refine aw_iload_n dX4_readNumber_17 rfl ?_
    refine aw_aload_n dX4_readNumber_18 rfl ?_
    refine aw_getI dX4_readNumber_19 fx_RX4_21 (by first | rfl | assumption) ?_
    rw [r1]
    refine aw_icmp_ge 80 dX4_readNumber_22 rfl (fun c22 => ?_) (fun c22 => ?_)
    · exact no (by omega)
    · refine aw_iload_n dX4_readNumber_25 rfl ?_
      refine aw_aload_n dX4_readNumber_26 rfl ?_
      refine aw_getI dX4_readNumber_27 fx_RX4_25 (by first | rfl | assumption) ?_
      refine aw_iconst dX4_readNumber_30 (by decide) (by decide) ?_
      refine aw_iadd dX4_readNumber_31 (by omega) (by omega) ?_
      rw [r2]
      refine aw_icmp_ge 80 dX4_readNumber_32 rfl (fun c32 => ?_) (fun c32 => ?_)
      · exfalso; omega
      · refine aw_aload_n dX4_readNumber_35 rfl ?_
        refine aw_getR1 dX4_readNumber_36 fx_RX4_9 (by first | rfl | assumption) (by first | rfl | assumption) ?_
        refine aw_iload_n dX4_readNumber_39 rfl ?_
        refine aw_iaload dX4_readNumber_40 (by first | rfl | assumption) (by omega) (by omega) ?_
        rw [r4 (x.1 + k) (by omega) (by omega)]
        refine aw_bipush dX4_readNumber_41 (by decide) (by decide) ?_
        refine aw_icmp_lt 80 dX4_readNumber_43 rfl (fun c43 => ?_) (fun c43 => ?_)
        · exact no (by omega)
        · refine aw_aload_n dX4_readNumber_46 rfl ?_
          refine aw_getR1 dX4_readNumber_47 fx_RX4_9 (by first | rfl | assumption) (by first | rfl | assumption) ?_
          refine aw_iload_n dX4_readNumber_50 rfl ?_
          refine aw_iaload dX4_readNumber_51 (by first | rfl | assumption) (by omega) (by omega) ?_
          rw [r4 (x.1 + k) (by omega) (by omega)]
          refine aw_bipush dX4_readNumber_52 (by decide) (by decide) ?_
          refine aw_icmp_gt 80 dX4_readNumber_54 rfl (fun c54 => ?_) (fun c54 => ?_)
          · exact no (by omega)
          · refine aw_iload dX4_readNumber_57 rfl ?_
            refine aw_bipush dX4_readNumber_59 (by decide) (by decide) ?_
            refine aw_imul dX4_readNumber_61 (by omega) (by omega) ?_
            refine aw_aload_n dX4_readNumber_62 rfl ?_
            refine aw_getR1 dX4_readNumber_63 fx_RX4_9 (by first | rfl | assumption) (by first | rfl | assumption) ?_
            refine aw_iload_n dX4_readNumber_66 rfl ?_
            refine aw_iaload dX4_readNumber_67 (by first | rfl | assumption) (by omega) (by omega) ?_
            rw [r4 (x.1 + k) (by omega) (by omega)]
            refine aw_iadd dX4_readNumber_68 (by omega) (by omega) ?_
            refine aw_bipush dX4_readNumber_69 (by decide) (by decide) ?_
            refine aw_isub dX4_readNumber_71 (by omega) (by omega) ?_
            refine aw_istore (ls' := [_, _, _, _, _]) dX4_readNumber_72 (by decide) rfl ?_
            refine aw_iinc (ls' := [_, _, _, _, _]) dX4_readNumber_74 (by decide) rfl (by omega) (by omega) rfl ?_
            refine aw_goto 17 dX4_readNumber_77 rfl ?_
            exact z (fun j hj => by
              by_cases y : j = k
              · subst y; exact decide_eq_true ⟨by omega, by omega, by omega⟩
              · exact hd j (by omega))
def QN (b : Int → Int) (l lo hi : Int) (x : Int × Int) (h : Mem) (t : Tp) : Option AV → Tp → Mem → Prop := fun v t' h' => v = some (vI (nmV b l x)) ∧ t' = t ∧ RD b l h' (nmS b l lo hi x) ∧ ∀ c, c ≠ 14 → h' c = h c
theorem c_X4_readNumber {lo hi : Int} (hR : RD b l h x) (h0 : 0 ≤ x.1) (h1 : x.1 ≤ l) (hl : l ≤ 80) : Sem M_X4_readNumber [vR 14, vI lo, vI hi] (TT e 13 n L) h 0 0 (QN b l lo hi x h (TT e 13 n L)) := by
  obtain ⟨r1, r2, r3, r4⟩ := id hR
  have nl := nd3_le (b := b) h1
  have en : x.2 = 0 → nmV b l x = pvl b x.1 (nd3 b l x.1) := fun z => if_neg (fun y => y z)
  have kp : ∀ y : Int, RD b l (am_up h 14 3 y) (x.1, y) := fun y => ⟨by simp [am_up]; exact r1, by simp [am_up]; exact r2, by simp [am_up], fun j j0 j1 => by rw [am_up_ne (by decide)]; exact r4 j j0 j1⟩
  have tl : x.2 = 0 → AW M_X4_readNumber 0 0 (QN b l lo hi x h (TT e 13 n L)) 80 [some (vR 14), some (vI lo), some (vI hi), some (vI (x.1 + nd3 b l x.1)), some (vI (pvl b x.1 (nd3 b l x.1)))] [] (TT e 13 n L) h 0 0 := by
    intro z
    rw [← en z]
    have es : nmS b l lo hi x = if nd3 b l x.1 = 0 ∨ nd3 b l x.1 = 3 then (x.1, 1) else if nmV b l x < lo ∨ hi < nmV b l x then (x.1, 2) else (x.1 + nd3 b l x.1, 0) := if_neg (fun y => y z)
    unfold QN
    rw [es]
    refine aw_iload_n dX4_readNumber_80 rfl ?_
    refine aw_aload_n dX4_readNumber_81 rfl ?_
    refine aw_getI dX4_readNumber_82 fx_RX4_25 (by first | rfl | assumption) ?_
    rw [r2]
    refine aw_icmp_eq 98 dX4_readNumber_85 rfl (fun c85 => ?_) (fun c85 => ?_)
    · refine aw_aload_n dX4_readNumber_98 rfl ?_
      refine aw_iconst dX4_readNumber_99 (by decide) (by decide) ?_
      refine aw_putI dX4_readNumber_100 fp_RX4_28 (by first | rfl | assumption) ?_
      refine aw_goto 131 dX4_readNumber_103 rfl ?_
      refine aw_iload dX4_readNumber_131 rfl ?_
      refine aw_ireturn dX4_readNumber_133 rfl (Nat.le_refl _) (Nat.le_refl _) ?_
      rw [if_pos (by omega)]
      exact ⟨rfl, rfl, kp 1, fun c hc => am_up_ne hc⟩
    · refine aw_iload_n dX4_readNumber_88 rfl ?_
      refine aw_aload_n dX4_readNumber_89 rfl ?_
      refine aw_getI dX4_readNumber_90 fx_RX4_25 (by first | rfl | assumption) ?_
      rw [r2]
      refine aw_iconst dX4_readNumber_93 (by decide) (by decide) ?_
      refine aw_iadd dX4_readNumber_94 (by omega) (by omega) ?_
      refine aw_icmp_ne 106 dX4_readNumber_95 rfl (fun c95 => ?_) (fun c95 => ?_)
      · refine aw_iload dX4_readNumber_106 rfl ?_
        refine aw_iload_n dX4_readNumber_108 rfl ?_
        refine aw_icmp_lt 118 dX4_readNumber_109 rfl (fun c109 => ?_) (fun c109 => ?_)
        · refine aw_aload_n dX4_readNumber_118 rfl ?_
          refine aw_iconst dX4_readNumber_119 (by decide) (by decide) ?_
          refine aw_putI dX4_readNumber_120 fp_RX4_28 (by first | rfl | assumption) ?_
          refine aw_goto 131 dX4_readNumber_123 rfl ?_
          refine aw_iload dX4_readNumber_131 rfl ?_
          refine aw_ireturn dX4_readNumber_133 rfl (Nat.le_refl _) (Nat.le_refl _) ?_
          rw [if_neg (by omega), if_pos (by omega)]
          exact ⟨rfl, rfl, kp 2, fun c hc => am_up_ne hc⟩
        · refine aw_iload dX4_readNumber_112 rfl ?_
          refine aw_iload_n dX4_readNumber_114 rfl ?_
          refine aw_icmp_le 126 dX4_readNumber_115 rfl (fun c115 => ?_) (fun c115 => ?_)
          · refine aw_aload_n dX4_readNumber_126 rfl ?_
            refine aw_iload_n dX4_readNumber_127 rfl ?_
            refine aw_putI dX4_readNumber_128 fp_RX4_25 (by first | rfl | assumption) ?_
            refine aw_iload dX4_readNumber_131 rfl ?_
            refine aw_ireturn dX4_readNumber_133 rfl (Nat.le_refl _) (Nat.le_refl _) ?_
            rw [if_neg (by omega), if_neg (by omega)]
            exact ⟨rfl, rfl, ⟨by simp [am_up]; exact r1, by simp [am_up], by simp [am_up]; omega, fun j j0 j1 => by rw [am_up_ne (by decide)]; exact r4 j j0 j1⟩, fun c hc => am_up_ne hc⟩
          · refine aw_aload_n dX4_readNumber_118 rfl ?_
            refine aw_iconst dX4_readNumber_119 (by decide) (by decide) ?_
            refine aw_putI dX4_readNumber_120 fp_RX4_28 (by first | rfl | assumption) ?_
            refine aw_goto 131 dX4_readNumber_123 rfl ?_
            refine aw_iload dX4_readNumber_131 rfl ?_
            refine aw_ireturn dX4_readNumber_133 rfl (Nat.le_refl _) (Nat.le_refl _) ?_
            rw [if_neg (by omega), if_pos (by omega)]
            exact ⟨rfl, rfl, kp 2, fun c hc => am_up_ne hc⟩
      · refine aw_aload_n dX4_readNumber_98 rfl ?_
        refine aw_iconst dX4_readNumber_99 (by decide) (by decide) ?_
        refine aw_putI dX4_readNumber_100 fp_RX4_28 (by first | rfl | assumption) ?_
        refine aw_goto 131 dX4_readNumber_103 rfl ?_
        refine aw_iload dX4_readNumber_131 rfl ?_
        refine aw_ireturn dX4_readNumber_133 rfl (Nat.le_refl _) (Nat.le_refl _) ?_
        rw [if_pos (by omega)]
        exact ⟨rfl, rfl, kp 1, fun c hc => am_up_ne hc⟩
  refine sem_intro (by decide) rfl (Nat.le_of_ble_eq_true rfl) rfl ?_
  refine aw_aload_n dX4_readNumber_0 rfl ?_
  refine aw_getI dX4_readNumber_1 fx_RX4_28 (by first | rfl | assumption) ?_
  refine aw_if_eq 9 dX4_readNumber_4 rfl (fun c4 => ?_) (fun c4 => ?_)
  · refine aw_aload_n dX4_readNumber_9 rfl ?_
    refine aw_getI dX4_readNumber_10 fx_RX4_25 (by first | rfl | assumption) ?_
    refine aw_istore_n (ls' := [_, _, _, _, _]) dX4_readNumber_13 (by decide) rfl ?_
    refine aw_iconst dX4_readNumber_14 (by decide) (by decide) ?_
    refine aw_istore (ls' := [_, _, _, _, _]) dX4_readNumber_15 (by decide) rfl ?_
    have z := l_readNumber (e := e) (n := n) (L := L) hR h0 h1 hl (tl (by omega)) 3 0 (by omega) (fun j hj => absurd hj (Nat.not_lt_zero j))
    rw [r2]
    simp only [Int.natCast_zero, Int.add_zero] at z
    exact z
  · refine aw_iconst dX4_readNumber_7 (by decide) (by decide) ?_
    refine aw_ireturn dX4_readNumber_8 rfl (Nat.le_refl _) (Nat.le_refl _) ?_
    refine ⟨am_ri (if_pos (by omega)).symm, rfl, ?_, fun _ _ => rfl⟩
    unfold nmS
    rw [if_pos (by omega)]
    exact hR
theorem c_X4_readNumberOf {kd : Int} (hR : RD b l h x) (h0 : 0 ≤ x.1) (h1 : x.1 ≤ l) (hl : l ≤ 80) : Sem M_X4_readNumberOf [vR 14, vI kd] (TT e 13 n L) h 0 0 (fun v t' h' => v = some (vI (noV b l kd x)) ∧ t' = TT e 13 n L ∧ RD b l h' (noS b l kd x) ∧ ∀ c, c ≠ 14 → h' c = h c) := by
  unfold noV noS
  refine sem_intro (by decide) rfl (Nat.le_of_ble_eq_true rfl) rfl ?_
  refine aw_iload_n dX4_readNumberOf_0 rfl ?_
  refine aw_iconst dX4_readNumberOf_1 (by decide) (by decide) ?_
  refine aw_icmp_ne 7 dX4_readNumberOf_2 rfl (fun c2 => ?_) (fun c2 => ?_)
  · refine aw_iload_n dX4_readNumberOf_7 rfl ?_
    refine aw_iconst dX4_readNumberOf_8 (by decide) (by decide) ?_
    refine aw_icmp_ne 22 dX4_readNumberOf_9 rfl (fun c9 => ?_) (fun c9 => ?_)
    · refine aw_aload_n dX4_readNumberOf_22 rfl ?_
      refine aw_iconst dX4_readNumberOf_23 (by decide) (by decide) ?_
      refine aw_bipush dX4_readNumberOf_24 (by decide) (by decide) ?_
      refine aw_v2q dX4_readNumberOf_26 vl_RX4_56 (by first | rfl | assumption) (Nat.le_of_ble_eq_true rfl) (Nat.le_of_ble_eq_true rfl) (Nat.le_of_ble_eq_true rfl) (Nat.le_refl _) (Nat.le_refl _) (c_X4_readNumber hR h0 h1 hl) ?_
      intro v t' h1 hq
      obtain ⟨rfl, rfl, f1, f2⟩ := hq
      refine aw_ireturn dX4_readNumberOf_29 rfl (Nat.le_refl _) (Nat.le_refl _) ?_
      rw [if_neg (by omega), if_neg (by omega), if_neg (by omega)]
      exact ⟨rfl, rfl, f1, f2⟩
    · refine aw_aload_n dX4_readNumberOf_12 rfl ?_
      refine aw_iconst dX4_readNumberOf_13 (by decide) (by decide) ?_
      refine aw_bipush dX4_readNumberOf_14 (by decide) (by decide) ?_
      refine aw_v2q dX4_readNumberOf_16 vl_RX4_56 (by first | rfl | assumption) (Nat.le_of_ble_eq_true rfl) (Nat.le_of_ble_eq_true rfl) (Nat.le_of_ble_eq_true rfl) (Nat.le_refl _) (Nat.le_refl _) (c_X4_readNumber hR h0 h1 hl) ?_
      intro v t' h1 hq
      obtain ⟨rfl, rfl, f1, f2⟩ := hq
      refine aw_goto 29 dX4_readNumberOf_19 rfl ?_
      refine aw_ireturn dX4_readNumberOf_29 rfl (Nat.le_refl _) (Nat.le_refl _) ?_
      rw [if_neg (by omega), if_neg (by omega), if_pos (by omega)]
      exact ⟨rfl, rfl, f1, f2⟩
  · refine aw_iconst dX4_readNumberOf_5 (by decide) (by decide) ?_
    refine aw_ireturn dX4_readNumberOf_6 rfl (Nat.le_refl _) (Nat.le_refl _) ?_
    rw [if_pos (by omega), if_pos (by omega)]
    exact ⟨rfl, rfl, hR, fun _ _ => rfl⟩
theorem c_X4_readLaw (hR : RD b l h (0, 0)) (hb : ∀ j, 0 ≤ j → j < l → 0 ≤ b j ∧ b j ≤ 255) (h1 : 0 ≤ l) (hl : l ≤ 80) : Sem M_X4_readLaw [vR 14, vR 21] (TT e 13 n L) h 0 0 (fun v t' h' => v = none ∧ t' = TT e 13 n L ∧ RD b l h' (lw4 b l) ∧ (h' 21 0 = h 21 0 ∧ h' 21 1 = nmV b l (lw1 b l) ∧ h' 21 2 = nmV b l (lw2 b l) ∧ h' 21 3 = nmV b l (lw3 b l) ∧ h' 21 4 = h 21 4) ∧ ∀ c, c ≠ 14 → c ≠ 21 → h' c = h c) := by
  obtain ⟨⟨a1, a2⟩, ⟨a3, a4⟩, ⟨a5, a6⟩, ⟨a7, a8⟩⟩ := lw_b (b := b) h1
  have b1 := nmS_b (b := b) (lo := 4) (hi := 20) a1 a2
  have b2 := nmS_b (b := b) (lo := 1) (hi := 5) a3 a4
  have b3 := nmS_b (b := b) (lo := 1) (hi := 87) a5 a6
  have mv : ∀ (hh : Mem) (y : Int × Int) (k v : Int), RD b l hh y → RD b l (am_up hh 21 k v) y := fun hh y k v r => ⟨by rw [am_up_ne (by decide)]; exact r.1, by rw [am_up_ne (by decide)]; exact r.2.1, by rw [am_up_ne (by decide)]; exact r.2.2.1, fun j j0 j1 => by rw [am_up_ne (by decide)]; exact r.2.2.2 j j0 j1⟩
  refine sem_intro (by decide) rfl (Nat.le_of_ble_eq_true rfl) rfl ?_
  refine aw_aload_n dX4_readLaw_0 rfl ?_
  refine aw_bipush dX4_readLaw_1 (by decide) (by decide) ?_
  refine aw_v1q dX4_readLaw_3 vl_RX4_52 (by first | rfl | assumption) (Nat.le_of_ble_eq_true rfl) (Nat.le_of_ble_eq_true rfl) (Nat.le_of_ble_eq_true rfl) (Nat.le_refl _) (Nat.le_refl _) (c_X4_readSign hR hb (Int.le_refl 0) h1 hl) ?_
  intro v t' g1 hq
  obtain ⟨rfl, rfl, f1, e1⟩ := hq
  refine aw_aload_n dX4_readLaw_6 rfl ?_
  refine aw_aload_n dX4_readLaw_7 rfl ?_
  refine aw_iconst dX4_readLaw_8 (by decide) (by decide) ?_
  refine aw_bipush dX4_readLaw_9 (by decide) (by decide) ?_
  refine aw_v2q dX4_readLaw_11 vl_RX4_56 (by first | rfl | assumption) (Nat.le_of_ble_eq_true rfl) (Nat.le_of_ble_eq_true rfl) (Nat.le_of_ble_eq_true rfl) (Nat.le_refl _) (Nat.le_refl _) (c_X4_readNumber f1 a1 a2 hl) ?_
  intro v t' g2 hq
  obtain ⟨rfl, rfl, f2, e2⟩ := hq
  refine aw_putI dX4_readLaw_14 fp_RX4_59 (by first | rfl | assumption) ?_
  refine aw_aload_n dX4_readLaw_17 rfl ?_
  refine aw_bipush dX4_readLaw_18 (by decide) (by decide) ?_
  refine aw_v1q dX4_readLaw_20 vl_RX4_52 (by first | rfl | assumption) (Nat.le_of_ble_eq_true rfl) (Nat.le_of_ble_eq_true rfl) (Nat.le_of_ble_eq_true rfl) (Nat.le_refl _) (Nat.le_refl _) (c_X4_readSign (mv _ _ _ _ f2) hb b1.1 b1.2 hl) ?_
  intro v t' g3 hq
  obtain ⟨rfl, rfl, f3, e3⟩ := hq
  refine aw_aload_n dX4_readLaw_23 rfl ?_
  refine aw_aload_n dX4_readLaw_24 rfl ?_
  refine aw_iconst dX4_readLaw_25 (by decide) (by decide) ?_
  refine aw_iconst dX4_readLaw_26 (by decide) (by decide) ?_
  refine aw_v2q dX4_readLaw_27 vl_RX4_56 (by first | rfl | assumption) (Nat.le_of_ble_eq_true rfl) (Nat.le_of_ble_eq_true rfl) (Nat.le_of_ble_eq_true rfl) (Nat.le_refl _) (Nat.le_refl _) (c_X4_readNumber f3 a3 a4 hl) ?_
  intro v t' g4 hq
  obtain ⟨rfl, rfl, f4, e4⟩ := hq
  refine aw_putI dX4_readLaw_30 fp_RX4_62 (by first | rfl | assumption) ?_
  refine aw_aload_n dX4_readLaw_33 rfl ?_
  refine aw_bipush dX4_readLaw_34 (by decide) (by decide) ?_
  refine aw_v1q dX4_readLaw_36 vl_RX4_52 (by first | rfl | assumption) (Nat.le_of_ble_eq_true rfl) (Nat.le_of_ble_eq_true rfl) (Nat.le_of_ble_eq_true rfl) (Nat.le_refl _) (Nat.le_refl _) (c_X4_readSign (mv _ _ _ _ f4) hb b2.1 b2.2 hl) ?_
  intro v t' g5 hq
  obtain ⟨rfl, rfl, f5, e5⟩ := hq
  refine aw_aload_n dX4_readLaw_39 rfl ?_
  refine aw_aload_n dX4_readLaw_40 rfl ?_
  refine aw_iconst dX4_readLaw_41 (by decide) (by decide) ?_
  refine aw_bipush dX4_readLaw_42 (by decide) (by decide) ?_
  refine aw_v2q dX4_readLaw_44 vl_RX4_56 (by first | rfl | assumption) (Nat.le_of_ble_eq_true rfl) (Nat.le_of_ble_eq_true rfl) (Nat.le_of_ble_eq_true rfl) (Nat.le_refl _) (Nat.le_refl _) (c_X4_readNumber f5 a5 a6 hl) ?_
  intro v t' g6 hq
  obtain ⟨rfl, rfl, f6, e6⟩ := hq
  refine aw_putI dX4_readLaw_47 fp_RX4_65 (by first | rfl | assumption) ?_
  refine aw_aload_n dX4_readLaw_50 rfl ?_
  refine aw_bipush dX4_readLaw_51 (by decide) (by decide) ?_
  refine aw_v1q dX4_readLaw_53 vl_RX4_52 (by first | rfl | assumption) (Nat.le_of_ble_eq_true rfl) (Nat.le_of_ble_eq_true rfl) (Nat.le_of_ble_eq_true rfl) (Nat.le_refl _) (Nat.le_refl _) (c_X4_readSign (mv _ _ _ _ f6) hb b3.1 b3.2 hl) ?_
  intro v t' g7 hq
  obtain ⟨rfl, rfl, f7, e7⟩ := hq
  refine aw_return dX4_readLaw_56 rfl (Nat.le_refl _) (Nat.le_refl _) ?_
  have e21 : g7 21 = am_up (am_up (am_up h 21 1 (nmV b l (lw1 b l))) 21 2 (nmV b l (lw2 b l))) 21 3 (nmV b l (lw3 b l)) 21 := by
    rw [e7 21 (by decide)]
    funext k
    unfold am_up
    rw [e6 21 (by decide), e5 21 (by decide)]
    unfold am_up
    rw [e4 21 (by decide), e3 21 (by decide)]
    unfold am_up
    rw [e2 21 (by decide), e1 21 (by decide)]
    rfl
  refine ⟨rfl, rfl, f7, ⟨by rw [e21]; simp [am_up], by rw [e21]; simp [am_up], by rw [e21]; simp [am_up], by rw [e21]; simp [am_up], by rw [e21]; simp [am_up]⟩, fun c c1 c2 => by rw [e7 c c1, am_up_ne c2, e6 c c1, e5 c c1, am_up_ne c2, e4 c c1, e3 c c1, am_up_ne c2, e2 c c1, e1 c c1]⟩
end REA
