/-! the acts' notes -/
section MOG
variable {e q n L : Nat} {h : Mem} {σ : ST}
theorem l_shift {Q : Option AV → Tp → Mem → Prop} (hk : ∀ hh, (∀ c, c ≠ 382 → hh c = h c) → (∀ j : Int, 0 ≤ j → j < 1219 → hh 382 j = h 382 (j + 53)) → AW M_X9_notes 0 0 Q 39 [some (vR 373), none] [] (TT e q n L) hh 0 0) :
    ∀ (m i : Nat) (hh : Mem), i + m = 1219 → (∀ c, c ≠ 382 → hh c = h c) → (∀ j : Int, 0 ≤ j → j < i → hh 382 j = h 382 (j + 53)) → (∀ j : Int, i ≤ j → hh 382 j = h 382 j) → AW M_X9_notes 0 0 Q 11 [some (vR 373), some (vI i)] [] (TT e q n L) hh 0 0 := by
  intro m
  induction m with
  | zero =>
    intro i hh hi g1 g2 g3
    have ei : i = 1219 := by omega
    subst ei
    refine aw_iload_n dX9_notes_11 rfl ?_
    refine aw_sipush dX9_notes_12 (by decide) (by decide) ?_
    refine aw_icmp_ge 39 dX9_notes_15 rfl (fun c15 => ?_) (fun c15 => ?_)
    · exact aw_less (by repeat' (first | exact trivial | exact rfl | apply And.intro)) (hk hh g1 g2)
    · exfalso; omega
  | succ m ih =>
    intro i hh hi g1 g2 g3
    have z := ih (i + 1)
    have e1 : hh 382 ((i : Int) + 53) = h 382 ((i : Int) + 53) := g3 _ (by omega)
    refine aw_iload_n dX9_notes_11 rfl ?_
    refine aw_sipush dX9_notes_12 (by decide) (by decide) ?_
    refine aw_icmp_ge 39 dX9_notes_15 rfl (fun c15 => ?_) (fun c15 => ?_)
    · exfalso; omega
    · refine aw_aload_n dX9_notes_18 rfl ?_
      refine aw_getR1 dX9_notes_19 fx_RX9_34 (by first | rfl | assumption) (by first | rfl | assumption) ?_
      refine aw_iload_n dX9_notes_22 rfl ?_
      refine aw_aload_n dX9_notes_23 rfl ?_
      refine aw_getR1 dX9_notes_24 fx_RX9_34 (by first | rfl | assumption) (by first | rfl | assumption) ?_
      refine aw_iload_n dX9_notes_27 rfl ?_
      refine aw_bipush dX9_notes_28 (by decide) (by decide) ?_
      refine aw_iadd dX9_notes_30 (by omega) (by omega) ?_
      refine aw_iaload dX9_notes_31 (by first | rfl | assumption) (by omega) (by omega) ?_
      rw [e1]
      refine aw_iastore dX9_notes_32 (by first | rfl | assumption) (by omega) (by omega) (by omega) ?_
      refine aw_iinc (ls' := [_, _]) dX9_notes_33 (by decide) rfl (by omega) (by omega) rfl ?_
      refine aw_goto 11 dX9_notes_36 rfl ?_
      refine z _ (by omega) (fun c hc => by rw [am_up_ne hc]; exact g1 c hc) (fun j j0 j1 => ?_) (fun j hj => ?_)
      · unfold am_up
        by_cases y : j = i
        · subst y; rw [if_pos ⟨rfl, rfl⟩]
        · rw [if_neg (by omega)]; exact g2 j j0 (by omega)
      · unfold am_up
        rw [if_neg (by omega)]; exact g3 j (by omega)
end MOG
