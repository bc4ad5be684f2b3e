section MOB
variable {e q n L : Nat} {h : Mem} {V : VW} {a : Nat}
theorem addR_00 : addR V 0 = V := by
  funext j k
  unfold addR
  split
  · rename_i z; rw [z.1, z.2]; omega
  · rfl
/-- settled: by the spec's run that doesn't stop -/
theorem c_X9_settles (sa : (TT e q n L).2.1 a = (20, 53)) (a1 : a = 379 ∨ a = 380 ∨ a = 381) (ev : mV h a 0 = V) (hV : WFv V) (r0 : 0 ≤ V 0 4) (r1 : V 0 4 ≤ 10000) : Sem M_X9_settles [vR 373, vR a] (TT e q n L) h 0 0 (fun v t' h' => v = none ∧ t' = TT e q n L ∧ mV h' a 0 = addR (settles false V).1 (settles false V).2.1 ∧ h' 373 23 = (settles false V).2.1 ∧ h' 373 24 = (settles false V).2.2.1 ∧ h' 373 25 = (settles false V).2.2.2.1 ∧ FM a h h') := by
  have v1 := hV.1
  have v2 := hV.2.1
  refine sem_intro (by decide) rfl (Nat.le_of_ble_eq_true rfl) rfl ?_
  refine aw_aload_n dX9_settles_0 rfl ?_
  refine aw_iconst dX9_settles_1 (by decide) (by decide) ?_
  refine aw_putI dX9_settles_2 fp_RX9_166 (by first | rfl | assumption) ?_
  refine aw_aload_n dX9_settles_5 rfl ?_
  refine aw_iconst dX9_settles_6 (by decide) (by decide) ?_
  refine aw_putI dX9_settles_7 fp_RX9_169 (by first | rfl | assumption) ?_
  refine aw_aload_n dX9_settles_10 rfl ?_
  refine aw_iconst dX9_settles_11 (by decide) (by decide) ?_
  refine aw_putI dX9_settles_12 fp_RX9_172 (by first | rfl | assumption) ?_
  refine aw_iconst dX9_settles_15 (by decide) (by decide) ?_
  refine aw_istore_n (ls' := [_, _, _, _, _]) dX9_settles_16 (by decide) rfl ?_
  obtain ⟨h0, hh0⟩ : ∃ h0, h0 = am_up (am_up (am_up h 373 23 0) 373 24 0) 373 25 0 := ⟨_, rfl⟩
  rw [← hh0]
  have g0 : ∀ c, c ≠ 373 → h0 c = h c := fun c hc => by rw [hh0, am_up_ne hc, am_up_ne hc, am_up_ne hc]
  have ev0 : mV h0 a 0 = V := by unfold mV mS; rw [g0 a (by omega)]; exact ev
  have p23 : h0 373 23 = 0 := by rw [hh0]; simp [am_up]
  have p24 : h0 373 24 = 0 := by rw [hh0]; simp [am_up]
  have p25 : h0 373 25 = 0 := by rw [hh0]; simp [am_up]
  have pf : FM a h h0 := ⟨fun c _ c2 _ _ => g0 c c2, fun k hk2 => by rw [hh0]; unfold am_up; rw [if_neg (by omega), if_neg (by omega), if_neg (by omega)]⟩
  refine aw_aload_n dX9_settles_17 rfl ?_
  refine aw_aload_n dX9_settles_18 rfl ?_
  refine aw_iconst dX9_settles_19 (by decide) (by decide) ?_
  refine aw_v2q dX9_settles_20 vl_RX9_175 (by first | rfl | assumption) (Nat.le_of_ble_eq_true rfl) (Nat.le_of_ble_eq_true rfl) (Nat.le_of_ble_eq_true rfl) (Nat.le_refl _) (Nat.le_refl _) (c_X9_keepsGuesses (N := (V 0 0).toNat) sa (by omega) ev0 v2 (by omega) (by omega) (by omega)) ?_
  intro v t' h1 hq
  obtain ⟨rfl, rfl, k1, k2, k3⟩ := hq
  refine aw_less (by repeat' (first | exact trivial | exact rfl | apply And.intro)) (l_settles (h := h) (R := settles false V) sa a1 (fun hh b1 b2 b3 b4 b5 => ⟨rfl, rfl, b1, b2, b3, b4, b5⟩) 200 V (fun _ _ => 0) 0 0 0 0 h1 (by omega) hV r0 r1 ?_ (by rw [k1 373 (by decide)]; exact p23) (by rw [k1 373 (by decide)]; exact p24) (by rw [k1 373 (by decide)]; exact p25) (by omega) (by omega) (fun _ => rfl) (fun y => absurd rfl y) (fun s hs i i0 i1 => ?_) (fun s hs => absurd hs (Nat.not_lt_zero s)) ?_ rfl)
  · show mV h1 a 0 = addR V 0
    rw [addR_00]
    unfold mV mS
    rw [k1 a (by omega)]
    exact ev0
  · have hs2 : s = 0 := by omega
    subst hs2
    rw [hup_at]
    have := k2 i.toNat (by omega)
    rw [am_nat i0] at this
    rw [← this]
    exact congrArg (h1 387) (by omega)
  · exact ⟨fun c y1 y2 y3 y4 => by rw [k1 c y4]; exact pf.1 c y1 y2 y3 y4, fun k hk2 => by rw [k1 373 (by decide)]; exact pf.2 k hk2⟩
end MOB
