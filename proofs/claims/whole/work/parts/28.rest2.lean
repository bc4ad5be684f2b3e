section RS2
variable {t : Tp} {h : Mem}
set_option maxHeartbeats 2000000 in
theorem c_X6_bringToRest {a : Nat} {stop : Bool} {x : Int} (hs : IsSh t a) (he : IsSe t) (ha : a + 4 < 26) (hro : RO h) (hV : WFv (cV h a)) (hx : x = if stop = true then 1 else 0) :
    Sem M_X6_bringToRest [vR 26, vR a, vI x] t h 0 0 (fun v t' h' => v = none ∧ t' = t ∧ SPost a h (settles stop (cV h a)) h') := by
  obtain ⟨e0, e1, e2, e3, e4, e5, e6, e7⟩ := id he
  subst hx
  have v1 := hV.1
  rw [cVc] at v1
  refine sem_intro (by decide) rfl (Nat.le_of_ble_eq_true rfl) rfl ?_
  refine aw_aload_n dX6_bringToRest_0 rfl ?_
  refine aw_iconst dX6_bringToRest_1 (by decide) (by decide) ?_
  refine aw_putI dX6_bringToRest_2 fp_RX6_40 (by first | assumption | rfl) ?_
  refine aw_aload_n dX6_bringToRest_5 rfl ?_
  refine aw_iconst dX6_bringToRest_6 (by decide) (by decide) ?_
  refine aw_putI dX6_bringToRest_7 fp_RX6_43 (by first | assumption | rfl) ?_
  refine aw_aload_n dX6_bringToRest_10 rfl ?_
  refine aw_iconst dX6_bringToRest_11 (by decide) (by decide) ?_
  refine aw_putI dX6_bringToRest_12 fp_RX6_46 (by first | assumption | rfl) ?_
  refine aw_aload_n dX6_bringToRest_15 rfl ?_
  refine aw_iconst dX6_bringToRest_16 (by decide) (by decide) ?_
  refine aw_putI dX6_bringToRest_17 fp_RX6_49 (by first | assumption | rfl) ?_
  obtain ⟨h0, hh0⟩ : ∃ h0, h0 = am_up (am_up (am_up (am_up h 26 3 0) 26 4 0) 26 5 0) 26 2 0 := ⟨_, rfl⟩
  rw [← hh0]
  have g0 : ∀ c, c ≠ 26 → h0 c = h c := fun c hc => by rw [hh0, am_up_ne hc, am_up_ne hc, am_up_ne hc, am_up_ne hc]
  have eV : cV h0 a = cV h a := cV_congr (fun k _ _ => by rw [g0 a (by omega)]) (fun j k _ _ _ _ => by rw [g0 (a + j) (by omega)])
  have hro0 : RO h0 := fun j j0 j1 => by rw [g0 1000001 (by omega)]; exact hro j j0 j1
  have hV0 : WFv (cV h0 a) := by rw [eV]; exact hV
  have ec0 : h0 a 0 = h a 0 := by rw [g0 a (by omega)]
  refine aw_aload_n dX6_bringToRest_20 rfl ?_
  refine aw_aload_n dX6_bringToRest_21 rfl ?_
  refine aw_aload_n dX6_bringToRest_22 rfl ?_
  refine aw_v1q dX6_bringToRest_23 vl_RX6_52 (by first | assumption | rfl) (Nat.le_of_ble_eq_true rfl) (Nat.le_of_ble_eq_true rfl) (Nat.le_of_ble_eq_true rfl) (Nat.le_refl _) (Nat.le_refl _) (c_X6_isAtRest hs he ha hro0 hV0) ?_
  intro v t' h5 hq
  obtain ⟨rfl, rfl, f1, fd⟩ := hq
  rw [eV, ec0] at fd
  rw [eV]
  have eb : 0 ≤ (if stl (cV h a) = true then (1 : Int) else 0) ∧ (if stl (cV h a) = true then (1 : Int) else 0) ≤ 1 := by split <;> omega
  have e26 : h5 26 = h0 26 := f1 26 (by omega)
  refine aw_putZ dX6_bringToRest_26 fp_RX6_56 (by assumption) eb.1 eb.2 ?_
  refine aw_less ?_ (l_bring (stop := stop) hs he ha hro 200 (am_up h5 26 6 (if stl (cV h a) = true then 1 else 0)) (cV h a) (fun _ _ => 0) 0 0 0 0 ⟨?_, ?_, ?_, ?_, ?_, ?_, ?_, ?_, ?_⟩ hV (fun k hk => absurd hk (by omega)) (by omega) (by omega) (by omega) (by omega) (fun h' hp => ⟨rfl, rfl, hp⟩))
  · exact (by repeat' (first | exact trivial | exact rfl | apply And.intro))
  · rw [← eV, ← f1.cV (a := a) (by omega)]
    exact cV_congr (fun k _ _ => by rw [am_up_ne (by omega)]) (fun j k _ _ _ _ => by rw [am_up_ne (by omega)])
  · simp [am_up]
  · simp [am_up, e26, hh0]
  · simp [am_up, e26, hh0]
  · simp [am_up, e26, hh0]
  · simp [am_up, e26, hh0]
  · intro k hk2
    rw [cVc] at hk2
    have := fd k hk2
    rw [am_up_ne (by omega), am_up_ne (by omega), am_up_ne (by omega)]
    exact this
  · intro k hk2
    exact absurd hk2 (by omega)
  · intro c c1 c2 c3
    rw [am_up_ne (by omega), f1 c (by omega), g0 c (by omega)]
  skip
end RS2
