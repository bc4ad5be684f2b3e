theorem alw_s {f : Nat → Int} {j : Nat} : alw f (j + 1) = true ↔ alw f j = true ∧ f j = f 0 := by
  show (alw f j && decide (f j = f 0)) = true ↔ _
  rw [Bool.and_eq_true, decide_eq_true_eq]
theorem alw_mx {f : Nat → Int} (h0 : 0 ≤ f 0) : ∀ j : Nat, alw f j = true → j ≠ 0 → mxw f j = f 0
  | 0, _, z => absurd rfl z
  | j + 1, h, _ => by
    have a := alw_s.1 h
    show (if mxw f j < f j then f j else mxw f j) = f 0
    by_cases y : j = 0
    · subst y
      show (if (0 : Int) < f 0 then f 0 else 0) = f 0
      split <;> omega
    · rw [alw_mx h0 j a.1 y, a.2]
      split <;> omega
section MO7
variable {e q n L : Nat} {h : Mem} {V : VW} {a : Nat}
set_option maxHeartbeats 4000000 in
theorem l_fzIn {Q : Option AV → Tp → Mem → Prop} {k F D : Nat} {f : Nat → Int} (sa : (TT e q n L).2.1 a = (20, 53)) (i1 : V 1 k ≤ 3) (k12 : k < 12) (e1 : h a (5 + 4 * k) = V 1 k) (e2 : h a (5 + 4 * k + 1) = V 2 k) (e4 : h a (5 + 4 * k + 3) = V 4 k) (n0 : 0 ≤ V 2 k) (n1 : V 2 k < 12) (f0 : 0 ≤ V 4 k) (f20 : V 4 k ≤ 20) (hD : F + D ≤ 200)
    (hg : ∀ j : Nat, j < D → 0 ≤ h 387 (12 * ((F : Int) + j) + V 2 k) ∧ h 387 (12 * ((F : Int) + j) + V 2 k) ≤ 99) (hf : ∀ j : Nat, j < D → f j = if V 4 k < sgn (V 1 k) (h 387 (12 * ((F : Int) + j) + V 2 k)) then sgn (V 1 k) (h 387 (12 * ((F : Int) + j) + V 2 k)) else V 4 k)
    (hk : AW M_X9_freezes 0 0 Q 139 [some (vR 373), some (vR a), some (vI F), some (vI ((F + D : Nat) : Int)), some (vI k), some (vI (5 + 4 * k)), some (vI (mxw f D)), some (vI (if alw f D = true then 1 else 0)), none, none] [] (TT e q n L) h 0 0) :
    ∀ (m j : Nat), j + m = D → 0 ≤ mxw f j → mxw f j ≤ 20 → AW M_X9_freezes 0 0 Q 28 [some (vR 373), some (vR a), some (vI F), some (vI ((F + D : Nat) : Int)), some (vI k), some (vI (5 + 4 * k)), some (vI (mxw f j)), some (vI (if alw f j = true then 1 else 0)), some (vI ((F : Int) + j)), none] [] (TT e q n L) h 0 0 := by
  intro m
  induction m with
  | zero =>
    intro j hj m0 m1
    have ej : j = D := by omega
    subst ej
    refine aw_iload dX9_freezes_28 rfl ?_
    refine aw_iload_n dX9_freezes_30 rfl ?_
    refine aw_icmp_ge 139 dX9_freezes_31 rfl (fun c31 => ?_) (fun c31 => ?_)
    · exact aw_less (by repeat' (first | exact trivial | exact rfl | apply And.intro)) hk
    · exfalso; omega
  | succ m ih =>
    intro j hj m0 m1
    have fj := hf j (by omega)
    have g := hg j (by omega)
    have sb := sgn_bd (k := V 1 k) g.1 g.2
    have f00 : 0 ≤ f 0 := by
      have f0' := hf 0 (by omega)
      have sb0 := sgn_bd (k := V 1 k) (hg 0 (by omega)).1 (hg 0 (by omega)).2
      rw [f0']
      split <;> omega
    have fb : 0 ≤ f j ∧ f j ≤ 20 := by rw [fj]; split <;> omega
    have z := ih (j + 1) (by omega)
    have em : mxw f (j + 1) = if mxw f j < f j then f j else mxw f j := rfl
    have A2 := alw_mx f00 j
    have J0 : j = 0 → f j = f 0 := fun y => by rw [y]
    rw [em, show ((j + 1 : Nat) : Int) = (j : Int) + 1 from rfl, ← Int.add_assoc] at z
    have tl : ∀ al : Int, (al = if alw f (j + 1) = true then 1 else 0) → AW M_X9_freezes 0 0 Q 115 [some (vR 373), some (vR a), some (vI F), some (vI ((F + D : Nat) : Int)), some (vI k), some (vI (5 + 4 * k)), some (vI (mxw f j)), some (vI (if alw f j = true then 1 else 0)), some (vI ((F : Int) + j)), some (vI (f j))] [vI al] (TT e q n L) h 0 0 := by
      intro al hal
      rw [← hal] at z
      refine aw_istore (ls' := [_, _, _, _, _, _, _, _, _, _]) dX9_freezes_115 (by decide) rfl ?_
      refine aw_iload dX9_freezes_117 rfl ?_
      refine aw_iload dX9_freezes_119 rfl ?_
      refine aw_icmp_le 129 dX9_freezes_121 rfl (fun c121 => ?_) (fun c121 => ?_)
      · refine aw_iload dX9_freezes_129 rfl ?_
        refine aw_istore (ls' := [_, _, _, _, _, _, _, _, _, _]) dX9_freezes_131 (by decide) rfl ?_
        refine aw_iinc (ls' := [_, _, _, _, _, _, _, _, _, _]) dX9_freezes_133 (by decide) rfl (by omega) (by omega) rfl ?_
        refine aw_goto 28 dX9_freezes_136 rfl ?_
        first | (rw [if_pos (show mxw f j < f j by omega)] at z; exact aw_less (by repeat' (first | exact trivial | exact rfl | apply And.intro)) (z (by omega) (by omega))) | (rw [if_neg (show ¬ mxw f j < f j by omega)] at z; exact aw_less (by repeat' (first | exact trivial | exact rfl | apply And.intro)) (z (by omega) (by omega)))
      · refine aw_iload dX9_freezes_124 rfl ?_
        refine aw_goto 131 dX9_freezes_126 rfl ?_
        refine aw_istore (ls' := [_, _, _, _, _, _, _, _, _, _]) dX9_freezes_131 (by decide) rfl ?_
        refine aw_iinc (ls' := [_, _, _, _, _, _, _, _, _, _]) dX9_freezes_133 (by decide) rfl (by omega) (by omega) rfl ?_
        refine aw_goto 28 dX9_freezes_136 rfl ?_
        first | (rw [if_pos (show mxw f j < f j by omega)] at z; exact aw_less (by repeat' (first | exact trivial | exact rfl | apply And.intro)) (z (by omega) (by omega))) | (rw [if_neg (show ¬ mxw f j < f j by omega)] at z; exact aw_less (by repeat' (first | exact trivial | exact rfl | apply And.intro)) (z (by omega) (by omega)))
    have t2 : AW M_X9_freezes 0 0 Q 92 [some (vR 373), some (vR a), some (vI F), some (vI ((F + D : Nat) : Int)), some (vI k), some (vI (5 + 4 * k)), some (vI (mxw f j)), some (vI (if alw f j = true then 1 else 0)), some (vI ((F : Int) + j)), some (vI (f j))] [] (TT e q n L) h 0 0 := by
      refine aw_iload dX9_freezes_92 rfl ?_
      refine aw_if_eq 114 dX9_freezes_94 rfl (fun c94 => ?_) (fun c94 => ?_)
      · refine aw_iconst dX9_freezes_114 (by decide) (by decide) ?_
        refine tl _ ?_
        first | (rw [if_neg (fun y => b_f c94 (alw_s.1 y).1)]; done) | (rw [if_pos (alw_s.2 ⟨b_t c94, J0 (by omega)⟩)]; done) | (rw [if_pos (alw_s.2 ⟨b_t c94, by rw [← A2 (b_t c94) (by omega)]; omega⟩)]; done) | (rw [if_neg (fun y => by have := A2 (b_t c94) (by omega); have := (alw_s.1 y).2; omega)]; done)
      · refine aw_iload dX9_freezes_97 rfl ?_
        refine aw_iload_n dX9_freezes_99 rfl ?_
        refine aw_icmp_eq 110 dX9_freezes_100 rfl (fun c100 => ?_) (fun c100 => ?_)
        · refine aw_iconst dX9_freezes_110 (by decide) (by decide) ?_
          refine aw_goto 115 dX9_freezes_111 rfl ?_
          refine tl _ ?_
          first | (rw [if_neg (fun y => b_f c94 (alw_s.1 y).1)]; done) | (rw [if_pos (alw_s.2 ⟨b_t c94, J0 (by omega)⟩)]; done) | (rw [if_pos (alw_s.2 ⟨b_t c94, by rw [← A2 (b_t c94) (by omega)]; omega⟩)]; done) | (rw [if_neg (fun y => by have := A2 (b_t c94) (by omega); have := (alw_s.1 y).2; omega)]; done)
        · refine aw_iload dX9_freezes_103 rfl ?_
          refine aw_iload dX9_freezes_105 rfl ?_
          refine aw_icmp_ne 114 dX9_freezes_107 rfl (fun c107 => ?_) (fun c107 => ?_)
          · refine aw_iconst dX9_freezes_114 (by decide) (by decide) ?_
            refine tl _ ?_
            first | (rw [if_neg (fun y => b_f c94 (alw_s.1 y).1)]; done) | (rw [if_pos (alw_s.2 ⟨b_t c94, J0 (by omega)⟩)]; done) | (rw [if_pos (alw_s.2 ⟨b_t c94, by rw [← A2 (b_t c94) (by omega)]; omega⟩)]; done) | (rw [if_neg (fun y => by have := A2 (b_t c94) (by omega); have := (alw_s.1 y).2; omega)]; done)
          · refine aw_iconst dX9_freezes_110 (by decide) (by decide) ?_
            refine aw_goto 115 dX9_freezes_111 rfl ?_
            refine tl _ ?_
            first | (rw [if_neg (fun y => b_f c94 (alw_s.1 y).1)]; done) | (rw [if_pos (alw_s.2 ⟨b_t c94, J0 (by omega)⟩)]; done) | (rw [if_pos (alw_s.2 ⟨b_t c94, by rw [← A2 (b_t c94) (by omega)]; omega⟩)]; done) | (rw [if_neg (fun y => by have := A2 (b_t c94) (by omega); have := (alw_s.1 y).2; omega)]; done)
    clear ih z tl
    refine aw_iload dX9_freezes_28 rfl ?_
    refine aw_iload_n dX9_freezes_30 rfl ?_
    refine aw_icmp_ge 139 dX9_freezes_31 rfl (fun c31 => ?_) (fun c31 => ?_)
    · exfalso; omega
    · refine aw_aload_n dX9_freezes_34 rfl ?_
      refine aw_iload dX9_freezes_35 rfl ?_
      refine aw_iaload dX9_freezes_37 (by first | rfl | assumption) (by omega) (by omega) ?_
      rw [e1]
      refine aw_iconst dX9_freezes_38 (by decide) (by decide) ?_
      refine aw_icmp_gt 139 dX9_freezes_39 rfl (fun c39 => ?_) (fun c39 => ?_)
      · exfalso; omega
      · refine aw_aload_n dX9_freezes_42 rfl ?_
        refine aw_iload dX9_freezes_43 rfl ?_
        refine aw_iaload dX9_freezes_45 (by first | rfl | assumption) (by omega) (by omega) ?_
        rw [e1]
        refine aw_aload_n dX9_freezes_46 rfl ?_
        refine aw_getR1 dX9_freezes_47 fx_RX9_50 (by first | rfl | assumption) (by first | rfl | assumption) ?_
        refine aw_bipush dX9_freezes_50 (by decide) (by decide) ?_
        refine aw_iload dX9_freezes_52 rfl ?_
        refine aw_imul dX9_freezes_54 (by omega) (by omega) ?_
        refine aw_aload_n dX9_freezes_55 rfl ?_
        refine aw_iload dX9_freezes_56 rfl ?_
        refine aw_iconst dX9_freezes_58 (by decide) (by decide) ?_
        refine aw_iadd dX9_freezes_59 (by omega) (by omega) ?_
        refine aw_iaload dX9_freezes_60 (by first | rfl | assumption) (by omega) (by omega) ?_
        rw [e2]
        refine aw_iadd dX9_freezes_61 (by omega) (by omega) ?_
        refine aw_iaload dX9_freezes_62 (by first | rfl | assumption) (by omega) (by omega) ?_
        refine aw_s2i dX9_freezes_63 sl_RX9_155 (Nat.le_of_ble_eq_true rfl) (Nat.le_of_ble_eq_true rfl) (Nat.le_of_ble_eq_true rfl) (Nat.le_refl _) (Nat.le_refl _) (c_X9_signs g.1 g.2) ?_
        refine aw_istore (ls' := [_, _, _, _, _, _, _, _, _, _]) dX9_freezes_66 (by decide) rfl ?_
        refine aw_iload dX9_freezes_68 rfl ?_
        refine aw_aload_n dX9_freezes_70 rfl ?_
        refine aw_iload dX9_freezes_71 rfl ?_
        refine aw_iconst dX9_freezes_73 (by decide) (by decide) ?_
        refine aw_iadd dX9_freezes_74 (by omega) (by omega) ?_
        refine aw_iaload dX9_freezes_75 (by first | rfl | assumption) (by omega) (by omega) ?_
        rw [e4]
        refine aw_icmp_le 84 dX9_freezes_76 rfl (fun c76 => ?_) (fun c76 => ?_)
        · refine aw_aload_n dX9_freezes_84 rfl ?_
          refine aw_iload dX9_freezes_85 rfl ?_
          refine aw_iconst dX9_freezes_87 (by decide) (by decide) ?_
          refine aw_iadd dX9_freezes_88 (by omega) (by omega) ?_
          refine aw_iaload dX9_freezes_89 (by first | rfl | assumption) (by omega) (by omega) ?_
          try rw [e4]
          refine aw_istore (ls' := [_, _, _, _, _, _, _, _, _, _]) dX9_freezes_90 (by decide) rfl ?_
          first | (rw [if_pos (by omega)] at fj; rw [← fj]; exact t2) | (rw [if_neg (by omega)] at fj; rw [← fj]; exact t2)
        · refine aw_iload dX9_freezes_79 rfl ?_
          refine aw_goto 90 dX9_freezes_81 rfl ?_
          try rw [e4]
          refine aw_istore (ls' := [_, _, _, _, _, _, _, _, _, _]) dX9_freezes_90 (by decide) rfl ?_
          first | (rw [if_pos (by omega)] at fj; rw [← fj]; exact t2) | (rw [if_neg (by omega)] at fj; rw [← fj]; exact t2)
end MO7
