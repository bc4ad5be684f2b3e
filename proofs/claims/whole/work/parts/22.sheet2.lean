/-- all cells but lo .. hi stay -/
def FR (h h' : Mem) (lo hi : Nat) : Prop := ∀ c, c < lo ∨ hi < c → h' c = h c
theorem FR.rf {h : Mem} {lo hi : Nat} : FR h h lo hi := fun _ _ => rfl
theorem FR.tr {h h' h2 : Mem} {lo hi : Nat} (a : FR h h' lo hi) (b : FR h' h2 lo hi) : FR h h2 lo hi := fun c hc => (b c hc).trans (a c hc)
theorem FR.wd {h h' : Mem} {lo hi l2 h2 : Nat} (a : FR h h' lo hi) (e1 : l2 ≤ lo) (e2 : hi ≤ h2) : FR h h' l2 h2 := fun c hc => a c (by omega)
theorem cV_congr {h h' : Mem} {a b : Nat} (h0 : ∀ k, 0 ≤ k → k < 5 → h' a k = h b k) (h1 : ∀ (j : Nat) (k : Int), 1 ≤ j → j ≤ 4 → 0 ≤ k → k < h b 0 → h' (a + j) k = h (b + j) k) : cV h' a = cV h b :=
  cut_eq (fun k k0 k1 => h0 k k0 k1) (fun j k hj h5 k0 k1 => h1 j k (by omega) (by omega) k0 (by
    have e : h' (a + 0) 0 = h b 0 := h0 0 (by omega) (by omega)
    rw [← e]; exact k1))
theorem FR.cV {h h' : Mem} {lo hi a : Nat} (f : FR h h' lo hi) (e : a + 4 < lo ∨ hi < a) : cV h' a = cV h a := cV_congr (fun k _ _ => by rw [f a (by omega)]) (fun j k _ _ _ _ => by rw [f (a + j) (by omega)])
theorem RO.fr {h h' : Mem} {lo hi : Nat} (r : RO h) (f : FR h h' lo hi) (e : hi < 1000001) : RO h' := fun i h0 h1 => by rw [f 1000001 (Or.inr e)]; exact r i h0 h1
section SH2
variable {t : Tp} {h : Mem}
set_option maxHeartbeats 1000000 in
theorem c_X7_takeFrom {a b : Nat} (ha : IsSh t a) (hb : IsSh t b) (hd : a + 4 < b ∨ b + 4 < a) (hc : h b 0 ≤ 12) : Sem M_X7_takeFrom [vR a, vR b] t h 0 0 (fun v t' h' => v = none ∧ t' = t ∧ cV h' a = cV h b ∧ FR h h' a (a + 4)) := by
  obtain ⟨s0, s1, s2, s3, s4, r5, r6, r7, r8, lt⟩ := ha
  obtain ⟨u0, u1, u2, u3, u4, p5, p6, p7, p8, lt2⟩ := hb
  have n0 : b ≠ a := by omega
  refine sem_intro (by decide) rfl (Nat.le_of_ble_eq_true rfl) rfl ?_
  refine aw_aload_n dX7_takeFrom_0 rfl ?_
  refine aw_aload_n dX7_takeFrom_1 rfl ?_
  refine aw_getI dX7_takeFrom_2 fx_RX7_24 (by first | assumption | rfl) ?_
  refine aw_putI dX7_takeFrom_5 fp_RX7_24 (by first | assumption | rfl) ?_
  refine aw_aload_n dX7_takeFrom_8 rfl ?_
  refine aw_aload_n dX7_takeFrom_9 rfl ?_
  refine aw_getI dX7_takeFrom_10 fx_RX7_28 (by first | assumption | rfl) ?_
  refine aw_putI dX7_takeFrom_13 fp_RX7_28 (by first | assumption | rfl) ?_
  refine aw_aload_n dX7_takeFrom_16 rfl ?_
  refine aw_aload_n dX7_takeFrom_17 rfl ?_
  refine aw_getI dX7_takeFrom_18 fx_RX7_31 (by first | assumption | rfl) ?_
  refine aw_putI dX7_takeFrom_21 fp_RX7_31 (by first | assumption | rfl) ?_
  refine aw_aload_n dX7_takeFrom_24 rfl ?_
  refine aw_aload_n dX7_takeFrom_25 rfl ?_
  refine aw_getI dX7_takeFrom_26 fx_RX7_34 (by first | assumption | rfl) ?_
  refine aw_putI dX7_takeFrom_29 fp_RX7_34 (by first | assumption | rfl) ?_
  refine aw_aload_n dX7_takeFrom_32 rfl ?_
  refine aw_aload_n dX7_takeFrom_33 rfl ?_
  refine aw_getI dX7_takeFrom_34 fx_RX7_37 (by first | assumption | rfl) ?_
  refine aw_putI dX7_takeFrom_37 fp_RX7_37 (by first | assumption | rfl) ?_
  refine aw_aload_n dX7_takeFrom_40 rfl ?_
  refine aw_getR1 dX7_takeFrom_41 fx_RX7_9 (by first | assumption | rfl) (by first | assumption | rfl) ?_
  refine aw_iconst dX7_takeFrom_44 (by decide) (by decide) ?_
  refine aw_aload_n dX7_takeFrom_45 rfl ?_
  refine aw_getR1 dX7_takeFrom_46 fx_RX7_9 (by first | assumption | rfl) (by first | assumption | rfl) ?_
  refine aw_iconst dX7_takeFrom_49 (by decide) (by decide) ?_
  refine aw_bipush dX7_takeFrom_50 (by decide) (by decide) ?_
  refine aw_copy dX7_takeFrom_52 ac_RX7_40 (by first | assumption | rfl) (by first | assumption | rfl) (by omega) (by omega) (by omega) (by omega) (by omega) (by omega) (by omega) (by decide) (Nat.le_of_ble_eq_true rfl) ?_
  refine aw_aload_n dX7_takeFrom_55 rfl ?_
  refine aw_getR1 dX7_takeFrom_56 fx_RX7_15 (by first | assumption | rfl) (by first | assumption | rfl) ?_
  refine aw_iconst dX7_takeFrom_59 (by decide) (by decide) ?_
  refine aw_aload_n dX7_takeFrom_60 rfl ?_
  refine aw_getR1 dX7_takeFrom_61 fx_RX7_15 (by first | assumption | rfl) (by first | assumption | rfl) ?_
  refine aw_iconst dX7_takeFrom_64 (by decide) (by decide) ?_
  refine aw_bipush dX7_takeFrom_65 (by decide) (by decide) ?_
  refine aw_copy dX7_takeFrom_67 ac_RX7_40 (by first | assumption | rfl) (by first | assumption | rfl) (by omega) (by omega) (by omega) (by omega) (by omega) (by omega) (by omega) (by decide) (Nat.le_of_ble_eq_true rfl) ?_
  refine aw_aload_n dX7_takeFrom_70 rfl ?_
  refine aw_getR1 dX7_takeFrom_71 fx_RX7_18 (by first | assumption | rfl) (by first | assumption | rfl) ?_
  refine aw_iconst dX7_takeFrom_74 (by decide) (by decide) ?_
  refine aw_aload_n dX7_takeFrom_75 rfl ?_
  refine aw_getR1 dX7_takeFrom_76 fx_RX7_18 (by first | assumption | rfl) (by first | assumption | rfl) ?_
  refine aw_iconst dX7_takeFrom_79 (by decide) (by decide) ?_
  refine aw_bipush dX7_takeFrom_80 (by decide) (by decide) ?_
  refine aw_copy dX7_takeFrom_82 ac_RX7_40 (by first | assumption | rfl) (by first | assumption | rfl) (by omega) (by omega) (by omega) (by omega) (by omega) (by omega) (by omega) (by decide) (Nat.le_of_ble_eq_true rfl) ?_
  refine aw_aload_n dX7_takeFrom_85 rfl ?_
  refine aw_getR1 dX7_takeFrom_86 fx_RX7_21 (by first | assumption | rfl) (by first | assumption | rfl) ?_
  refine aw_iconst dX7_takeFrom_89 (by decide) (by decide) ?_
  refine aw_aload_n dX7_takeFrom_90 rfl ?_
  refine aw_getR1 dX7_takeFrom_91 fx_RX7_21 (by first | assumption | rfl) (by first | assumption | rfl) ?_
  refine aw_iconst dX7_takeFrom_94 (by decide) (by decide) ?_
  refine aw_bipush dX7_takeFrom_95 (by decide) (by decide) ?_
  refine aw_copy dX7_takeFrom_97 ac_RX7_40 (by first | assumption | rfl) (by first | assumption | rfl) (by omega) (by omega) (by omega) (by omega) (by omega) (by omega) (by omega) (by decide) (Nat.le_of_ble_eq_true rfl) ?_
  refine aw_return dX7_takeFrom_100 rfl (Nat.le_refl _) (Nat.le_refl _) ?_
  refine ⟨rfl, rfl, ?_, ?_⟩
  · refine cV_congr (fun k k0 k1 => ?_) (fun j k j1 j4 k0 k1 => ?_)
    · rw [am_cpy_ne (by omega), am_cpy_ne (by omega), am_cpy_ne (by omega), am_cpy_ne (by omega)]
      rcases (show k = 0 ∨ k = 1 ∨ k = 2 ∨ k = 3 ∨ k = 4 by omega) with rfl | rfl | rfl | rfl | rfl <;> simp [am_up, n0]
    · rcases (show j = 1 ∨ j = 2 ∨ j = 3 ∨ j = 4 by omega) with rfl | rfl | rfl | rfl
      · rw [am_cpy_ne (by omega), am_cpy_ne (by omega), am_cpy_ne (by omega)]
        unfold am_cpy
        rw [if_pos ⟨rfl, by omega, by omega⟩, show (0 : Int) + (k - 0) = k by omega, am_up_ne (by omega), am_up_ne (by omega), am_up_ne (by omega), am_up_ne (by omega), am_up_ne (by omega)]
      · rw [am_cpy_ne (by omega), am_cpy_ne (by omega)]
        unfold am_cpy
        rw [if_pos ⟨rfl, by omega, by omega⟩, show (0 : Int) + (k - 0) = k by omega, if_neg (by omega), am_up_ne (by omega), am_up_ne (by omega), am_up_ne (by omega), am_up_ne (by omega), am_up_ne (by omega)]
      · rw [am_cpy_ne (by omega)]
        unfold am_cpy
        rw [if_pos ⟨rfl, by omega, by omega⟩, show (0 : Int) + (k - 0) = k by omega, if_neg (by omega), if_neg (by omega), am_up_ne (by omega), am_up_ne (by omega), am_up_ne (by omega), am_up_ne (by omega), am_up_ne (by omega)]
      · unfold am_cpy
        rw [if_pos ⟨rfl, by omega, by omega⟩, show (0 : Int) + (k - 0) = k by omega, if_neg (by omega), if_neg (by omega), if_neg (by omega), am_up_ne (by omega), am_up_ne (by omega), am_up_ne (by omega), am_up_ne (by omega), am_up_ne (by omega)]
  · intro c hc
    rw [am_cpy_ne (by omega), am_cpy_ne (by omega), am_cpy_ne (by omega), am_cpy_ne (by omega), am_up_ne (by omega), am_up_ne (by omega), am_up_ne (by omega), am_up_ne (by omega), am_up_ne (by omega)]
/-- begun anew -/
def bgn (V : VW) : VW := cut (fun j k => if j = 3 then V 0 3 else if j = 4 then 0 else V j k)
theorem c_X7_beginAnew {a : Nat} (ha : IsSh t a) (hc : h a 0 ≤ 12) : Sem M_X7_beginAnew [vR a] t h 0 0 (fun v t' h' => v = none ∧ t' = t ∧ cV h' a = bgn (cV h a) ∧ FR h h' a (a + 4)) := by
  obtain ⟨s0, s1, s2, s3, s4, r5, r6, r7, r8, lt⟩ := ha
  refine sem_intro (by decide) rfl (Nat.le_of_ble_eq_true rfl) rfl ?_
  refine aw_aload_n dX7_beginAnew_0 rfl ?_
  refine aw_getR1 dX7_beginAnew_1 fx_RX7_18 (by first | assumption | rfl) (by first | assumption | rfl) ?_
  refine aw_aload_n dX7_beginAnew_4 rfl ?_
  refine aw_getI dX7_beginAnew_5 fx_RX7_34 (by first | assumption | rfl) ?_
  refine aw_s2v dX7_beginAnew_8 sl_RX7_46 (Nat.le_of_ble_eq_true rfl) (Nat.le_of_ble_eq_true rfl) (Nat.le_of_ble_eq_true rfl) (Nat.le_refl _) (Nat.le_refl _) (c_fill (by assumption) (by omega) (by decide)) ?_
  refine aw_aload_n dX7_beginAnew_11 rfl ?_
  refine aw_getR1 dX7_beginAnew_12 fx_RX7_21 (by first | assumption | rfl) (by first | assumption | rfl) ?_
  refine aw_iconst dX7_beginAnew_15 (by decide) (by decide) ?_
  refine aw_s2v dX7_beginAnew_16 sl_RX7_46 (Nat.le_of_ble_eq_true rfl) (Nat.le_of_ble_eq_true rfl) (Nat.le_of_ble_eq_true rfl) (Nat.le_refl _) (Nat.le_refl _) (c_fill (by assumption) (by omega) (by decide)) ?_
  refine aw_return dX7_beginAnew_19 rfl (Nat.le_refl _) (Nat.le_refl _) ?_
  refine ⟨rfl, rfl, ?_, ?_⟩
  · unfold bgn
    refine cut_eq (fun k k0 k1 => ?_) (fun j k j0 j5 k0 k1 => ?_)
    · show am_fill _ (a + 4) _ _ (a + 0) k = _
      rw [if_neg (by decide), if_neg (by decide), cV0 k0 k1]
      unfold am_fill
      rw [if_neg (by omega), if_neg (by omega)]; rfl
    · have k2 : k < h a 0 := by
        revert k1
        show k < am_fill _ (a + 4) _ _ (a + 0) 0 → _
        unfold am_fill
        rw [if_neg (by omega), if_neg (by omega)]
        exact id
      show am_fill _ (a + 4) _ _ (a + j) k = _
      rcases (show j = 1 ∨ j = 2 ∨ j = 3 ∨ j = 4 by omega) with rfl | rfl | rfl | rfl
      · rw [if_neg (by decide), if_neg (by decide), cV1 k0 k2]
        unfold am_fill
        rw [if_neg (by omega), if_neg (by omega)]
      · rw [if_neg (by decide), if_neg (by decide), cV2 k0 k2]
        unfold am_fill
        rw [if_neg (by omega), if_neg (by omega)]
      · rw [if_pos rfl, cVf]
        unfold am_fill
        rw [if_neg (by omega), if_pos (by omega)]
      · rw [if_neg (by decide), if_pos rfl]
        unfold am_fill
        rw [if_pos (by omega)]
  · intro c hc
    unfold am_fill
    funext k
    rw [if_neg (by omega), if_neg (by omega)]
end SH2
