section MOH
variable {e q n L : Nat} {h : Mem} {V : VW}
def QNt (P : Nat × (Nat → VW)) (h : Mem) (t : Tp) : Option AV → Tp → Mem → Prop := fun v t' h' => v = none ∧ t' = t ∧ (h' 373 17 = (P.1 : Int) ∧ ∀ j : Nat, j < P.1 → mV h' 382 (53 * (j : Int)) = P.2 j) ∧ (∀ c, c ≠ 382 → c ≠ 373 → h' c = h c) ∧ ∀ k : Int, k ≠ 17 → h' 373 k = h 373 k
theorem t_notes {A : Nat} {P : Nat → VW} {hh : Mem} (hA : A ≤ 23) (ev : mV hh 379 0 = V) (v2 : V 0 0 ≤ 12) (ha : hh 373 17 = (A : Int)) (hP : ∀ j : Nat, j < A → mV hh 382 (53 * (j : Int)) = P j ∧ P j 0 0 ≤ 12) (hf : ∀ c, c ≠ 382 → c ≠ 373 → hh c = h c) (hg : ∀ k : Int, k ≠ 17 → hh 373 k = h 373 k) :
    AW M_X9_notes 0 0 (QNt (A + 1, fun j => if j = A then V else P j) h (TT e q n L)) 49 [some (vR 373), none] [] (TT e q n L) hh 0 0 := by
  have ec : hh 379 3 ≤ 12 := by rw [mA_c ev]; exact v2
  refine aw_aload_n dX9_notes_49 rfl ?_
  refine aw_getR1 dX9_notes_50 fx_RX9_25 (by first | rfl | assumption) (by first | rfl | assumption) ?_
  refine aw_iconst dX9_notes_53 (by decide) (by decide) ?_
  refine aw_aload_n dX9_notes_54 rfl ?_
  refine aw_getR1 dX9_notes_55 fx_RX9_34 (by first | rfl | assumption) (by first | rfl | assumption) ?_
  refine aw_bipush dX9_notes_58 (by decide) (by decide) ?_
  refine aw_aload_n dX9_notes_60 rfl ?_
  refine aw_getI dX9_notes_61 fx_RX9_149 (by first | rfl | assumption) ?_
  rw [ha]
  refine aw_imul dX9_notes_64 (by omega) (by omega) ?_
  refine aw_s4q dX9_notes_65 sl_RX9_145 (Nat.le_of_ble_eq_true rfl) (Nat.le_of_ble_eq_true rfl) (Nat.le_of_ble_eq_true rfl) (Nat.le_refl _) (Nat.le_refl _) (c_X9_copies (Nx := 53) (Ny := 1272) rfl rfl (by decide) (by omega) (by omega) (by omega) (by omega) (by decide) (by decide) (by decide)) ?_
  intro v t' h1 hq
  obtain ⟨rfl, rfl, k1, k2, k3⟩ := hq
  have a1 : h1 373 17 = (A : Int) := by rw [k3 373 (by decide)]; exact ha
  refine aw_aload_n dX9_notes_68 rfl ?_
  refine aw_dup dX9_notes_69 rfl ?_
  refine aw_getI dX9_notes_70 fx_RX9_149 (by first | rfl | assumption) ?_
  rw [a1]
  refine aw_iconst dX9_notes_73 (by decide) (by decide) ?_
  refine aw_iadd dX9_notes_74 (by omega) (by omega) ?_
  refine aw_putI dX9_notes_75 fp_RX9_149 (by first | rfl | assumption) ?_
  refine aw_return dX9_notes_78 rfl (Nat.le_refl _) (Nat.le_refl _) ?_
  refine ⟨rfl, rfl, ⟨by simp [am_up], fun j hj => ?_⟩, fun c c1 c2 => by rw [am_up_ne c2, k3 c c1]; exact hf c c1 c2, fun k hk => by rw [← hg k hk, ← k3 373 (by decide)]; unfold am_up; rw [if_neg (by omega)]⟩
  have eu : ∀ o : Int, mV (am_up h1 373 17 ((A : Int) + 1)) 382 o = mV h1 382 o := fun o => by unfold mV mS; rw [am_up_ne (by decide)]
  rw [eu]
  show mV h1 382 (53 * (j : Int)) = if j = A then V else P j
  by_cases y : j = A
  · subst y
    rw [if_pos rfl, ← ev]
    exact mV_congr (fun k k0 k1' => k1 k k0 k1') (by rw [show (0 : Int) + 3 = 3 from rfl]; exact ec)
  · rw [if_neg y, ← (hP j (by have : j < A + 1 := hj; omega)).1]
    have j2 : j < A := by have : j < A + 1 := hj; omega
    refine mV_congr (fun k k0 k1' => k2 _ (by omega)) ?_
    have := (hP j j2).2
    rw [← (hP j j2).1, mVc] at this
    exact this
theorem c_X9_notes {p : Nat × (Nat → VW)} (ev : mV h 379 0 = V) (v2 : V 0 0 ≤ 12) (hp : p.1 ≤ 24) (ha : h 373 17 = (p.1 : Int)) (hP : ∀ j : Nat, j < p.1 → mV h 382 (53 * (j : Int)) = p.2 j ∧ p.2 j 0 0 ≤ 12) : Sem M_X9_notes [vR 373] (TT e q n L) h 0 0 (QNt (pushP p V) h (TT e q n L)) := by
  unfold pushP
  have tl : p.1 = 24 → ∀ hh : Mem, (∀ c, c ≠ 382 → hh c = h c) → (∀ j : Int, 0 ≤ j → j < 1219 → hh 382 j = h 382 (j + 53)) → AW M_X9_notes 0 0 (QNt (24, fun j => if j = 23 then V else p.2 (j + 1)) h (TT e q n L)) 39 [some (vR 373), none] [] (TT e q n L) hh 0 0 := by
    intro hp4 hh g1 g2
    have a1 : hh 373 17 = 24 := by rw [g1 373 (by decide), ha, hp4]; rfl
    have z := t_notes (e := e) (q := q) (n := n) (L := L) (h := h) (V := V) (A := 23) (P := fun j => p.2 (j + 1)) (hh := am_up hh 373 17 23) (by omega) (by unfold mV mS; rw [am_up_ne (by decide), g1 379 (by decide)]; exact ev) v2 (by simp [am_up]) (fun j hj => by
      obtain ⟨b1, b2⟩ := hP (j + 1) (by omega)
      refine ⟨?_, b2⟩
      show _ = p.2 (j + 1)
      rw [← b1]
      refine mV_congr (fun k k0 k1 => ?_) ?_
      · rw [am_up_ne (by decide), g2 _ (by omega) (by omega)]
        exact congrArg (h 382) (by omega)
      · rw [← b1, mVc] at b2
        exact b2) (fun c c1 c2 => by rw [am_up_ne c2]; exact g1 c c1) (fun k hk => by unfold am_up; rw [if_neg (by omega), g1 373 (by decide)])
    refine aw_aload_n dX9_notes_39 rfl ?_
    refine aw_dup dX9_notes_40 rfl ?_
    refine aw_getI dX9_notes_41 fx_RX9_149 (by first | rfl | assumption) ?_
    rw [a1]
    refine aw_iconst dX9_notes_44 (by decide) (by decide) ?_
    refine aw_isub dX9_notes_45 (by omega) (by omega) ?_
    refine aw_putI dX9_notes_46 fp_RX9_149 (by first | rfl | assumption) ?_
    exact aw_less (by repeat' (first | exact trivial | exact rfl | apply And.intro)) z
  refine sem_intro (by decide) rfl (Nat.le_of_ble_eq_true rfl) rfl ?_
  refine aw_aload_n dX9_notes_0 rfl ?_
  refine aw_getI dX9_notes_1 fx_RX9_149 (by first | rfl | assumption) ?_
  rw [ha]
  refine aw_bipush dX9_notes_4 (by decide) (by decide) ?_
  refine aw_icmp_ne 49 dX9_notes_6 rfl (fun c6 => ?_) (fun c6 => ?_)
  · rw [if_pos (by omega)]
    exact aw_less (by repeat' (first | exact trivial | exact rfl | apply And.intro)) (t_notes (P := p.2) (by omega) ev v2 ha hP (fun _ _ _ => rfl) (fun _ _ => rfl))
  · refine aw_iconst dX9_notes_9 (by decide) (by decide) ?_
    refine aw_istore_n (ls' := [_, _]) dX9_notes_10 (by decide) rfl ?_
    rw [if_neg (by omega)]
    have hp4 : p.1 = 24 := by omega
    refine aw_less (by repeat' (first | exact trivial | exact rfl | apply And.intro)) (l_shift (h := h) (fun hh g1 g2 => tl hp4 hh g1 g2) 1219 0 h (by omega) (fun _ _ => rfl) (fun j j0 j1 => absurd j1 (by omega)) (fun _ _ => rfl))
end MOH
