/-! TO SETTLE with and without a stop at the first ring -/
theorem strun_at : ∀ (n : Nat) (V : VW) (H : Nat → Int → Int) (kp : Nat) (r f g : Int), (strun false n V H kp r f g).2.2.2.2 = stl (strun false n V H kp r f g).1
  | 0, _, _, _, _, _, _ => rfl
  | n + 1, V, H, kp, r, f, g => by
    unfold strun
    by_cases hst : stl V = true
    · rw [if_pos hst]; exact hst.symm
    · rw [if_neg hst]
      by_cases hs : find (rnd V 3) (hup H kp (V 3)) (V 0 0).toNat kp = -1
      · rw [if_pos hs]; exact strun_at n _ _ _ _ _ _
      · rw [if_neg hs, if_neg (by decide)]; exact strun_at n _ _ _ _ _ _
theorem settles_at {V : VW} : (settles false V).2.2.2.2 = stl (settles false V).1 := strun_at 200 V _ _ _ _ _
theorem strun_f : ∀ (n : Nat) (V : VW) (H : Nat → Int → Int) (kp : Nat) (r f g : Int), f ≤ (strun false n V H kp r f g).2.2.1
  | 0, _, _, _, _, f, _ => Int.le_refl f
  | n + 1, V, H, kp, r, f, g => by
    unfold strun
    by_cases hst : stl V = true
    · rw [if_pos hst]; exact Int.le_refl f
    · rw [if_neg hst]
      by_cases hs : find (rnd V 3) (hup H kp (V 3)) (V 0 0).toNat kp = -1
      · rw [if_pos hs]; exact strun_f n _ _ _ _ _ _
      · rw [if_neg hs, if_neg (by decide)]
        exact Int.le_trans (by omega) (strun_f n _ _ _ _ (f + 1) _)
theorem strun_tf : ∀ (n : Nat) (V : VW) (H : Nat → Int → Int) (kp : Nat) (r f g : Int), (strun true n V H kp r f g = strun false n V H kp r f g ∧ (strun false n V H kp r f g).2.2.1 = f) ∨ ((strun true n V H kp r f g).2.2.1 = f + 1 ∧ f + 1 ≤ (strun false n V H kp r f g).2.2.1)
  | 0, _, _, _, _, _, _ => Or.inl ⟨rfl, rfl⟩
  | n + 1, V, H, kp, r, f, g => by
    unfold strun
    by_cases hst : stl V = true
    · rw [if_pos hst, if_pos hst]; exact Or.inl ⟨rfl, rfl⟩
    · rw [if_neg hst, if_neg hst]
      by_cases hs : find (rnd V 3) (hup H kp (V 3)) (V 0 0).toNat kp = -1
      · rw [if_pos hs, if_pos hs]; exact strun_tf n _ _ _ _ _ _
      · rw [if_neg hs, if_neg hs, if_pos (show true = true from rfl), if_neg (show ¬ (false = true) by decide)]
        exact Or.inr ⟨rfl, strun_f n _ _ _ _ (f + 1) _⟩
theorem settles_tf {V : VW} : (settles true V = settles false V ∧ (settles false V).2.2.1 = 0) ∨ ((settles true V).2.2.1 = 1 ∧ 1 ≤ (settles false V).2.2.1) := strun_tf 200 V _ _ _ _ _
theorem rest_tf {V : VW} : 0 < (settles true V).2.2.1 ↔ 0 < (settles false V).2.2.1 := by
  rcases settles_tf (V := V) with ⟨a, b⟩ | ⟨a, b⟩
  · rw [a]
  · omega
theorem okS_tf {V : VW} : okS V = true ↔ ((settles false (bgn V)).2.2.1 = 0 ∧ stl (settles false (bgn V)).1 = true) := by
  unfold okS
  rw [Bool.and_eq_true, decide_eq_true_eq]
  rcases settles_tf (V := bgn V) with ⟨a, b⟩ | ⟨a, b⟩
  · rw [a, settles_at]
  · constructor
    · intro h; exact absurd h.1 (by omega)
    · intro h; exact absurd h.1 (by omega)
