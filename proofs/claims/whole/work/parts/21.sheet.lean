/-! sets of bits -/
def ior (x y : Int) : Int := (Int32.ofInt x ||| Int32.ofInt y).toInt
def shl1 (k : Int) : Int := (Int32.ofInt 1 <<< (Int32.ofInt k &&& 31)).toInt
def bset (P : Nat → Bool) : Nat → Int
  | 0 => 0
  | n + 1 => if P n = true then ior (bset P n) (shl1 n) else bset P n
theorem bset_t {P : Nat → Bool} {n : Nat} (h : P n = true) : bset P (n + 1) = ior (bset P n) (shl1 n) := if_pos h
theorem bset_f {P : Nat → Bool} {n : Nat} (h : P n = false) : bset P (n + 1) = bset P n := if_neg (by rw [h]; decide)
theorem bset_32 (P : Nat → Bool) : ∀ n, ∃ x : Int32, x.toInt = bset P n
  | 0 => ⟨0, rfl⟩
  | n + 1 => by
    by_cases h : P n = true
    · rw [bset_t h]; exact ⟨_, rfl⟩
    · rw [bset_f (by simpa using h)]; exact bset_32 P n
theorem ior_0 {P : Nat → Bool} {n : Nat} : ior (bset P n) 0 = bset P n := by
  obtain ⟨x, hx⟩ := bset_32 P n
  rw [← hx]
  unfold ior
  rw [Int32.ofInt_toInt, show Int32.ofInt 0 = 0 from rfl, Int32.or_zero]
theorem bset_congr {P R : Nat → Bool} : ∀ n, (∀ i, i < n → P i = R i) → bset P n = bset R n
  | 0, _ => rfl
  | n + 1, h => by
    unfold bset
    rw [h n (by omega), bset_congr n (fun i hi => h i (by omega))]
/-- the given row of the numerals' lengths -/
def RO (h : Mem) : Prop := ∀ i, 0 ≤ i → i ≤ 9 → h 1000001 i = rs i
def am_fill (h : Mem) (a : Nat) (n v : Int) : Mem := fun c k => if c = a ∧ 0 ≤ k ∧ k < n then v else h c k
theorem am_fill_0 {h : Mem} {a : Nat} {v : Int} : am_fill h a 0 v = h := by
  funext c k
  unfold am_fill
  rw [if_neg (by omega)]
theorem am_fill_s {h : Mem} {a : Nat} {i v : Int} (h0 : 0 ≤ i) : am_up (am_fill h a i v) a i v = am_fill h a (i + 1) v := by
  funext c k
  unfold am_up am_fill
  by_cases h1 : c = a ∧ k = i
  · rw [if_pos h1, if_pos (by omega)]
  · rw [if_neg h1]
    by_cases h2 : c = a ∧ 0 ≤ k ∧ k < i
    · rw [if_pos h2, if_pos (by omega)]
    · rw [if_neg h2, if_neg (by omega)]
theorem l_fill {t : Tp} {h : Mem} {Q : Option AV → Tp → Mem → Prop} {a N : Nat} {v : Int} (hk : t.2.1 a = (20, N)) (ha : a < 1000000) (hN : N < 100000) (k : AW M_J7_fill_53178 0 0 Q 20 [some (vR a), some (vI v), some (vI N), some (vI N)] [] t (am_fill h a N v) 0 0) :
    ∀ (m : Nat) (i : Nat), i + m = N → AW M_J7_fill_53178 0 0 Q 5 [some (vR a), some (vI v), some (vI i), some (vI N)] [] t (am_fill h a i v) 0 0 := by
  intro m
  induction m with
  | zero =>
    intro i hi
    have e : i = N := by omega
    subst e
    refine aw_iload_n dJ7_fill_53178_5 rfl ?_
    refine aw_iload_n dJ7_fill_53178_6 rfl ?_
    refine aw_icmp_ge 20 dJ7_fill_53178_7 rfl (fun c7 => ?_) (fun c7 => ?_)
    · exact k
    · exact absurd (Int.le_refl _) c7
  | succ m ih =>
    intro i hi
    refine aw_iload_n dJ7_fill_53178_5 rfl ?_
    refine aw_iload_n dJ7_fill_53178_6 rfl ?_
    refine aw_icmp_ge 20 dJ7_fill_53178_7 rfl (fun c7 => ?_) (fun c7 => ?_)
    · exfalso; omega
    · refine aw_aload_n dJ7_fill_53178_10 rfl ?_
      refine aw_iload_n dJ7_fill_53178_11 rfl ?_
      refine aw_iload_n dJ7_fill_53178_12 rfl ?_
      refine aw_iastore dJ7_fill_53178_13 (by first | rfl | assumption) (by omega) (by omega) (by omega) ?_
      refine aw_iinc (ls' := [_, _, _, _]) dJ7_fill_53178_14 (by decide) rfl (by omega) (by omega) rfl ?_
      refine aw_goto 5 dJ7_fill_53178_17 rfl ?_
      rw [am_fill_s (by omega)]
      exact ih (i + 1) (by omega)
theorem c_fill {t : Tp} {h : Mem} {a N : Nat} {v : Int} (hk : t.2.1 a = (20, N)) (ha : a < 1000000) (hN : N < 100000) : SemE M_J7_fill_53178 [vR a, vI v] t h none t (am_fill h a N v) := by
  refine sem_intro (by decide) rfl (Nat.le_of_ble_eq_true rfl) rfl ?_
  refine aw_iconst dJ7_fill_53178_0 (by decide) (by decide) ?_
  refine aw_istore_n (ls' := [_, _, _, _]) dJ7_fill_53178_1 (by decide) rfl ?_
  refine aw_aload_n dJ7_fill_53178_2 rfl ?_
  refine aw_arraylength (n := (N : Int)) dJ7_fill_53178_3 hk rfl (by omega) ?_
  refine aw_istore_n (ls' := [_, _, _, _]) dJ7_fill_53178_4 (by decide) rfl ?_
  have z := l_fill (h := h) (v := v) (Q := EQ none t (am_fill h a N v)) hk ha hN (aw_return dJ7_fill_53178_20 rfl (Nat.le_refl _) (Nat.le_refl _) ⟨rfl, rfl, rfl⟩) N 0 (by omega)
  rw [show ((0 : Nat) : Int) = 0 from rfl, am_fill_0] at z
  exact z
section SHT
variable {t : Tp} {h : Mem}
theorem c_X7_holds {a : Nat} {i : Int} (hs : IsSh t a) : SemE M_X7_holds [vR a, vI i] t h (some (vI (if 0 ≤ i ∧ i < h a 0 then 1 else 0))) t h := by
  obtain ⟨s0, s1, s2, s3, s4, r5, r6, r7, r8, lt⟩ := id hs
  refine sem_intro (by decide) rfl (Nat.le_of_ble_eq_true rfl) rfl ?_
  refine aw_iload_n dX7_holds_0 rfl ?_
  refine aw_if_lt 16 dX7_holds_1 rfl (fun c1 => ?_) (fun c1 => ?_)
  · refine aw_iconst dX7_holds_16 (by decide) (by decide) ?_
    refine aw_zreturn dX7_holds_17 rfl (Nat.le_refl _) (Nat.le_refl _) (by first | decide | omega) (by first | decide | omega) ?_
    exact ⟨am_ri (by split <;> omega), rfl, rfl⟩
  · refine aw_iload_n dX7_holds_4 rfl ?_
    refine aw_aload_n dX7_holds_5 rfl ?_
    refine aw_getI dX7_holds_6 fx_RX7_24 (by first | rfl | assumption) ?_
    refine aw_icmp_ge 16 dX7_holds_9 rfl (fun c9 => ?_) (fun c9 => ?_)
    · refine aw_iconst dX7_holds_16 (by decide) (by decide) ?_
      refine aw_zreturn dX7_holds_17 rfl (Nat.le_refl _) (Nat.le_refl _) (by first | decide | omega) (by first | decide | omega) ?_
      exact ⟨am_ri (by split <;> omega), rfl, rfl⟩
    · refine aw_iconst dX7_holds_12 (by decide) (by decide) ?_
      refine aw_goto 17 dX7_holds_13 rfl ?_
      refine aw_zreturn dX7_holds_17 rfl (Nat.le_refl _) (Nat.le_refl _) (by first | decide | omega) (by first | decide | omega) ?_
      exact ⟨am_ri (by split <;> omega), rfl, rfl⟩
theorem c_X7_isReference {a : Nat} {i : Int} (hs : IsSh t a) (h0 : 0 ≤ i) (h1 : i < 12) : SemE M_X7_isReference [vR a, vI i] t h (some (vI (if 1 ≤ h (a + 1) i ∧ h (a + 1) i ≤ 3 then 1 else 0))) t h := by
  obtain ⟨s0, s1, s2, s3, s4, r5, r6, r7, r8, lt⟩ := id hs
  refine sem_intro (by decide) rfl (Nat.le_of_ble_eq_true rfl) rfl ?_
  refine aw_aload_n dX7_isReference_0 rfl ?_
  refine aw_getR1 dX7_isReference_1 fx_RX7_9 (by first | rfl | assumption) (by first | rfl | assumption) ?_
  refine aw_iload_n dX7_isReference_4 rfl ?_
  refine aw_iaload dX7_isReference_5 (by first | rfl | assumption) (by omega) (by omega) ?_
  refine aw_iconst dX7_isReference_6 (by decide) (by decide) ?_
  refine aw_icmp_lt 24 dX7_isReference_7 rfl (fun c7 => ?_) (fun c7 => ?_)
  · refine aw_iconst dX7_isReference_24 (by decide) (by decide) ?_
    refine aw_zreturn dX7_isReference_25 rfl (Nat.le_refl _) (Nat.le_refl _) (by first | decide | omega) (by first | decide | omega) ?_
    exact ⟨am_ri (by split <;> omega), rfl, rfl⟩
  · refine aw_aload_n dX7_isReference_10 rfl ?_
    refine aw_getR1 dX7_isReference_11 fx_RX7_9 (by first | rfl | assumption) (by first | rfl | assumption) ?_
    refine aw_iload_n dX7_isReference_14 rfl ?_
    refine aw_iaload dX7_isReference_15 (by first | rfl | assumption) (by omega) (by omega) ?_
    refine aw_iconst dX7_isReference_16 (by decide) (by decide) ?_
    refine aw_icmp_gt 24 dX7_isReference_17 rfl (fun c17 => ?_) (fun c17 => ?_)
    · refine aw_iconst dX7_isReference_24 (by decide) (by decide) ?_
      refine aw_zreturn dX7_isReference_25 rfl (Nat.le_refl _) (Nat.le_refl _) (by first | decide | omega) (by first | decide | omega) ?_
      exact ⟨am_ri (by split <;> omega), rfl, rfl⟩
    · refine aw_iconst dX7_isReference_20 (by decide) (by decide) ?_
      refine aw_goto 25 dX7_isReference_21 rfl ?_
      refine aw_zreturn dX7_isReference_25 rfl (Nat.le_refl _) (Nat.le_refl _) (by first | decide | omega) (by first | decide | omega) ?_
      exact ⟨am_ri (by split <;> omega), rfl, rfl⟩
theorem c_X7_isOfKind {a : Nat} {i kd : Int} (hs : IsSh t a) (h0 : 0 ≤ i) (h1 : i < 12) : SemE M_X7_isOfKind [vR a, vI i, vI kd] t h (some (vI (if kd = 0 ∨ kd = h (a + 1) i ∨ (kd = 1 ∧ 1 ≤ h (a + 1) i ∧ h (a + 1) i ≤ 3) ∨ (kd = 4 ∧ h (a + 1) i = 5) then 1 else 0))) t h := by
  obtain ⟨s0, s1, s2, s3, s4, r5, r6, r7, r8, lt⟩ := id hs
  refine sem_intro (by decide) rfl (Nat.le_of_ble_eq_true rfl) rfl ?_
  refine aw_iload_n dX7_isOfKind_0 rfl ?_
  refine aw_if_eq 42 dX7_isOfKind_1 rfl (fun c1 => ?_) (fun c1 => ?_)
  · refine aw_iconst dX7_isOfKind_42 (by decide) (by decide) ?_
    refine aw_goto 47 dX7_isOfKind_43 rfl ?_
    refine aw_zreturn dX7_isOfKind_47 rfl (Nat.le_refl _) (Nat.le_refl _) (by first | decide | omega) (by first | decide | omega) ?_
    exact ⟨am_ri (by split <;> first | rfl | (split at c24 <;> omega) | omega), rfl, rfl⟩
  · refine aw_iload_n dX7_isOfKind_4 rfl ?_
    refine aw_aload_n dX7_isOfKind_5 rfl ?_
    refine aw_getR1 dX7_isOfKind_6 fx_RX7_9 (by first | rfl | assumption) (by first | rfl | assumption) ?_
    refine aw_iload_n dX7_isOfKind_9 rfl ?_
    refine aw_iaload dX7_isOfKind_10 (by first | rfl | assumption) (by omega) (by omega) ?_
    refine aw_icmp_eq 42 dX7_isOfKind_11 rfl (fun c11 => ?_) (fun c11 => ?_)
    · refine aw_iconst dX7_isOfKind_42 (by decide) (by decide) ?_
      refine aw_goto 47 dX7_isOfKind_43 rfl ?_
      refine aw_zreturn dX7_isOfKind_47 rfl (Nat.le_refl _) (Nat.le_refl _) (by first | decide | omega) (by first | decide | omega) ?_
      exact ⟨am_ri (by split <;> first | rfl | (split at c24 <;> omega) | omega), rfl, rfl⟩
    · refine aw_iload_n dX7_isOfKind_14 rfl ?_
      refine aw_iconst dX7_isOfKind_15 (by decide) (by decide) ?_
      refine aw_icmp_ne 27 dX7_isOfKind_16 rfl (fun c16 => ?_) (fun c16 => ?_)
      · refine aw_iload_n dX7_isOfKind_27 rfl ?_
        refine aw_iconst dX7_isOfKind_28 (by decide) (by decide) ?_
        refine aw_icmp_ne 46 dX7_isOfKind_29 rfl (fun c29 => ?_) (fun c29 => ?_)
        · refine aw_iconst dX7_isOfKind_46 (by decide) (by decide) ?_
          refine aw_zreturn dX7_isOfKind_47 rfl (Nat.le_refl _) (Nat.le_refl _) (by first | decide | omega) (by first | decide | omega) ?_
          exact ⟨am_ri (by split <;> first | rfl | (split at c24 <;> omega) | omega), rfl, rfl⟩
        · refine aw_aload_n dX7_isOfKind_32 rfl ?_
          refine aw_getR1 dX7_isOfKind_33 fx_RX7_9 (by first | rfl | assumption) (by first | rfl | assumption) ?_
          refine aw_iload_n dX7_isOfKind_36 rfl ?_
          refine aw_iaload dX7_isOfKind_37 (by first | rfl | assumption) (by omega) (by omega) ?_
          refine aw_iconst dX7_isOfKind_38 (by decide) (by decide) ?_
          refine aw_icmp_ne 46 dX7_isOfKind_39 rfl (fun c39 => ?_) (fun c39 => ?_)
          · refine aw_iconst dX7_isOfKind_46 (by decide) (by decide) ?_
            refine aw_zreturn dX7_isOfKind_47 rfl (Nat.le_refl _) (Nat.le_refl _) (by first | decide | omega) (by first | decide | omega) ?_
            exact ⟨am_ri (by split <;> first | rfl | (split at c24 <;> omega) | omega), rfl, rfl⟩
          · refine aw_iconst dX7_isOfKind_42 (by decide) (by decide) ?_
            refine aw_goto 47 dX7_isOfKind_43 rfl ?_
            refine aw_zreturn dX7_isOfKind_47 rfl (Nat.le_refl _) (Nat.le_refl _) (by first | decide | omega) (by first | decide | omega) ?_
            exact ⟨am_ri (by split <;> first | rfl | (split at c24 <;> omega) | omega), rfl, rfl⟩
      · refine aw_aload_n dX7_isOfKind_19 rfl ?_
        refine aw_iload_n dX7_isOfKind_20 rfl ?_
        refine aw_v1i dX7_isOfKind_21 vl_RX7_52 (by first | rfl | assumption) (Nat.le_of_ble_eq_true rfl) (Nat.le_of_ble_eq_true rfl) (Nat.le_of_ble_eq_true rfl) (Nat.le_refl _) (Nat.le_refl _) (c_X7_isReference (by first | assumption | exact sh_16 | exact sh_21) (by omega) (by omega)) ?_
        refine aw_ifB_ne 42 dX7_isOfKind_24 rfl (fun c24 => ?_) (fun c24 => ?_)
        · refine aw_iconst dX7_isOfKind_42 (by decide) (by decide) ?_
          refine aw_goto 47 dX7_isOfKind_43 rfl ?_
          refine aw_zreturn dX7_isOfKind_47 rfl (Nat.le_refl _) (Nat.le_refl _) (by first | decide | omega) (by first | decide | omega) ?_
          exact ⟨am_ri (by split <;> first | rfl | (split at c24 <;> omega) | omega), rfl, rfl⟩
        · refine aw_iload_n dX7_isOfKind_27 rfl ?_
          refine aw_iconst dX7_isOfKind_28 (by decide) (by decide) ?_
          refine aw_icmp_ne 46 dX7_isOfKind_29 rfl (fun c29 => ?_) (fun c29 => ?_)
          · refine aw_iconst dX7_isOfKind_46 (by decide) (by decide) ?_
            refine aw_zreturn dX7_isOfKind_47 rfl (Nat.le_refl _) (Nat.le_refl _) (by first | decide | omega) (by first | decide | omega) ?_
            exact ⟨am_ri (by split <;> first | rfl | (split at c24 <;> omega) | omega), rfl, rfl⟩
          · refine aw_aload_n dX7_isOfKind_32 rfl ?_
            refine aw_getR1 dX7_isOfKind_33 fx_RX7_9 (by first | rfl | assumption) (by first | rfl | assumption) ?_
            refine aw_iload_n dX7_isOfKind_36 rfl ?_
            refine aw_iaload dX7_isOfKind_37 (by first | rfl | assumption) (by omega) (by omega) ?_
            refine aw_iconst dX7_isOfKind_38 (by decide) (by decide) ?_
            refine aw_icmp_ne 46 dX7_isOfKind_39 rfl (fun c39 => ?_) (fun c39 => ?_)
            · refine aw_iconst dX7_isOfKind_46 (by decide) (by decide) ?_
              refine aw_zreturn dX7_isOfKind_47 rfl (Nat.le_refl _) (Nat.le_refl _) (by first | decide | omega) (by first | decide | omega) ?_
              exact ⟨am_ri (by split <;> first | rfl | (split at c24 <;> omega) | omega), rfl, rfl⟩
            · refine aw_iconst dX7_isOfKind_42 (by decide) (by decide) ?_
              refine aw_goto 47 dX7_isOfKind_43 rfl ?_
              refine aw_zreturn dX7_isOfKind_47 rfl (Nat.le_refl _) (Nat.le_refl _) (by first | decide | omega) (by first | decide | omega) ?_
              exact ⟨am_ri (by split <;> first | rfl | (split at c24 <;> omega) | omega), rfl, rfl⟩
theorem c_X7_lastGuess {a : Nat} (hs : IsSh t a) (h0 : 0 < h a 0) (h1 : h a 0 ≤ 12) : SemE M_X7_lastGuess [vR a] t h (some (vI (h (a + 3) (h a 0 - 1)))) t h := by
  obtain ⟨s0, s1, s2, s3, s4, r5, r6, r7, r8, lt⟩ := id hs
  refine sem_intro (by decide) rfl (Nat.le_of_ble_eq_true rfl) rfl ?_
  refine aw_aload_n dX7_lastGuess_0 rfl ?_
  refine aw_getI dX7_lastGuess_1 fx_RX7_24 (by first | rfl | assumption) ?_
  refine aw_if_le 21 dX7_lastGuess_4 rfl (fun c4 => ?_) (fun c4 => ?_)
  · omega
  · refine aw_aload_n dX7_lastGuess_7 rfl ?_
    refine aw_getR1 dX7_lastGuess_8 fx_RX7_18 (by first | rfl | assumption) (by first | rfl | assumption) ?_
    refine aw_aload_n dX7_lastGuess_11 rfl ?_
    refine aw_getI dX7_lastGuess_12 fx_RX7_24 (by first | rfl | assumption) ?_
    refine aw_iconst dX7_lastGuess_15 (by decide) (by decide) ?_
    refine aw_isub dX7_lastGuess_16 (by omega) (by omega) ?_
    refine aw_iaload dX7_lastGuess_17 (by first | rfl | assumption) (by omega) (by omega) ?_
    refine aw_goto 23 dX7_lastGuess_18 rfl ?_
    refine aw_ireturn dX7_lastGuess_23 rfl (Nat.le_refl _) (Nat.le_refl _) ?_
    exact ⟨rfl, rfl, rfl⟩
abbrev mbn (cnt kind k : Int) : Prop := kind = 5 ∨ (kind = 4 ∧ 1 ≤ k ∧ k ≤ 20) ∨ (kind ≠ 5 ∧ kind ≠ 4 ∧ 0 ≤ k ∧ k < cnt)
theorem c_X7_mayBeNumber {a : Nat} {kd k x : Int} (hs : IsSh t a) (hx : (mbn (h a 0) kd k ∧ x = 1) ∨ (¬ mbn (h a 0) kd k ∧ x = 0)) : SemE M_X7_mayBeNumber [vR a, vI kd, vI k] t h (some (vI x)) t h := by
  obtain ⟨s0, s1, s2, s3, s4, r5, r6, r7, r8, lt⟩ := id hs
  unfold mbn at hx
  refine sem_intro (by decide) rfl (Nat.le_of_ble_eq_true rfl) rfl ?_
  refine aw_iload_n dX7_mayBeNumber_0 rfl ?_
  refine aw_iconst dX7_mayBeNumber_1 (by decide) (by decide) ?_
  refine aw_icmp_ne 7 dX7_mayBeNumber_2 rfl (fun c2 => ?_) (fun c2 => ?_)
  · refine aw_iload_n dX7_mayBeNumber_7 rfl ?_
    refine aw_iconst dX7_mayBeNumber_8 (by decide) (by decide) ?_
    refine aw_icmp_ne 31 dX7_mayBeNumber_9 rfl (fun c9 => ?_) (fun c9 => ?_)
    · refine aw_aload_n dX7_mayBeNumber_31 rfl ?_
      refine aw_iload_n dX7_mayBeNumber_32 rfl ?_
      refine aw_v1i dX7_mayBeNumber_33 vl_RX7_56 (by first | rfl | assumption) (Nat.le_of_ble_eq_true rfl) (Nat.le_of_ble_eq_true rfl) (Nat.le_of_ble_eq_true rfl) (Nat.le_refl _) (Nat.le_refl _) (c_X7_holds (by first | assumption | exact sh_16 | exact sh_21)) ?_
      refine aw_zreturn dX7_mayBeNumber_36 rfl (Nat.le_refl _) (Nat.le_refl _) (by first | decide | omega | (split <;> omega)) (by first | decide | omega | (split <;> omega)) ?_
      exact ⟨am_ri (by first | omega | (split <;> omega)), rfl, rfl⟩
    · refine aw_iload_n dX7_mayBeNumber_12 rfl ?_
      refine aw_iconst dX7_mayBeNumber_13 (by decide) (by decide) ?_
      refine aw_icmp_lt 27 dX7_mayBeNumber_14 rfl (fun c14 => ?_) (fun c14 => ?_)
      · refine aw_iconst dX7_mayBeNumber_27 (by decide) (by decide) ?_
        refine aw_goto 36 dX7_mayBeNumber_28 rfl ?_
        refine aw_zreturn dX7_mayBeNumber_36 rfl (Nat.le_refl _) (Nat.le_refl _) (by first | decide | omega | (split <;> omega)) (by first | decide | omega | (split <;> omega)) ?_
        exact ⟨am_ri (by first | omega | (split <;> omega)), rfl, rfl⟩
      · refine aw_iload_n dX7_mayBeNumber_17 rfl ?_
        refine aw_bipush dX7_mayBeNumber_18 (by decide) (by decide) ?_
        refine aw_icmp_gt 27 dX7_mayBeNumber_20 rfl (fun c20 => ?_) (fun c20 => ?_)
        · refine aw_iconst dX7_mayBeNumber_27 (by decide) (by decide) ?_
          refine aw_goto 36 dX7_mayBeNumber_28 rfl ?_
          refine aw_zreturn dX7_mayBeNumber_36 rfl (Nat.le_refl _) (Nat.le_refl _) (by first | decide | omega | (split <;> omega)) (by first | decide | omega | (split <;> omega)) ?_
          exact ⟨am_ri (by first | omega | (split <;> omega)), rfl, rfl⟩
        · refine aw_iconst dX7_mayBeNumber_23 (by decide) (by decide) ?_
          refine aw_goto 36 dX7_mayBeNumber_24 rfl ?_
          refine aw_zreturn dX7_mayBeNumber_36 rfl (Nat.le_refl _) (Nat.le_refl _) (by first | decide | omega | (split <;> omega)) (by first | decide | omega | (split <;> omega)) ?_
          exact ⟨am_ri (by first | omega | (split <;> omega)), rfl, rfl⟩
  · refine aw_iconst dX7_mayBeNumber_5 (by decide) (by decide) ?_
    refine aw_zreturn dX7_mayBeNumber_6 rfl (Nat.le_refl _) (Nat.le_refl _) (by first | decide | omega | (split <;> omega)) (by first | decide | omega | (split <;> omega)) ?_
    exact ⟨am_ri (by first | omega | (split <;> omega)), rfl, rfl⟩
theorem c_X7_signsOf {kd p : Int} (hst : t.2.1 1000001 = (20, 10)) (hro : RO h) (h0 : 0 ≤ p) (h1 : p ≤ 99) : SemE M_X7_signsOf [vI kd, vI p] t h (some (vI (sgn kd p))) t h := by
  have a1 := hro (p / 10) (by omega) (by omega)
  have a2 := hro (p % 10) (by omega) (by omega)
  have b1 := rs_bd (f := p / 10) (by omega) (by omega)
  have b2 := rs_bd (f := p % 10) (by omega) (by omega)
  refine sem_intro (by decide) rfl (Nat.le_of_ble_eq_true rfl) rfl ?_
  refine aw_iload_n dX7_signsOf_0 rfl ?_
  refine aw_iconst dX7_signsOf_1 (by decide) (by decide) ?_
  refine aw_icmp_ne 37 dX7_signsOf_2 rfl (fun c2 => ?_) (fun c2 => ?_)
  · refine aw_iload_n dX7_signsOf_37 rfl ?_
    refine aw_bipush dX7_signsOf_38 (by decide) (by decide) ?_
    refine aw_icmp_ge 47 dX7_signsOf_40 rfl (fun c40 => ?_) (fun c40 => ?_)
    · refine aw_iconst dX7_signsOf_47 (by decide) (by decide) ?_
      refine aw_istore_n (ls' := [_, _, _]) dX7_signsOf_48 (by decide) rfl ?_
      refine aw_iload_n dX7_signsOf_49 rfl ?_
      refine aw_iconst dX7_signsOf_50 (by decide) (by decide) ?_
      refine aw_icmp_ne 60 dX7_signsOf_51 rfl (fun c51 => ?_) (fun c51 => ?_)
      · refine aw_iload_n dX7_signsOf_60 rfl ?_
        refine aw_ireturn dX7_signsOf_61 rfl (Nat.le_refl _) (Nat.le_refl _) ?_
        refine ⟨am_ri ?_, rfl, rfl⟩
        unfold sgn
        first | omega | (split <;> first | omega | (split <;> first | omega | (split <;> omega)))
      · refine aw_iload_n dX7_signsOf_54 rfl ?_
        refine aw_iconst dX7_signsOf_55 (by decide) (by decide) ?_
        refine aw_iadd dX7_signsOf_56 (by omega) (by omega) ?_
        refine aw_goto 61 dX7_signsOf_57 rfl ?_
        refine aw_ireturn dX7_signsOf_61 rfl (Nat.le_refl _) (Nat.le_refl _) ?_
        refine ⟨am_ri ?_, rfl, rfl⟩
        unfold sgn
        first | omega | (split <;> first | omega | (split <;> first | omega | (split <;> omega)))
    · refine aw_iconst dX7_signsOf_43 (by decide) (by decide) ?_
      refine aw_goto 48 dX7_signsOf_44 rfl ?_
      refine aw_istore_n (ls' := [_, _, _]) dX7_signsOf_48 (by decide) rfl ?_
      refine aw_iload_n dX7_signsOf_49 rfl ?_
      refine aw_iconst dX7_signsOf_50 (by decide) (by decide) ?_
      refine aw_icmp_ne 60 dX7_signsOf_51 rfl (fun c51 => ?_) (fun c51 => ?_)
      · refine aw_iload_n dX7_signsOf_60 rfl ?_
        refine aw_ireturn dX7_signsOf_61 rfl (Nat.le_refl _) (Nat.le_refl _) ?_
        refine ⟨am_ri ?_, rfl, rfl⟩
        unfold sgn
        first | omega | (split <;> first | omega | (split <;> first | omega | (split <;> omega)))
      · refine aw_iload_n dX7_signsOf_54 rfl ?_
        refine aw_iconst dX7_signsOf_55 (by decide) (by decide) ?_
        refine aw_iadd dX7_signsOf_56 (by omega) (by omega) ?_
        refine aw_goto 61 dX7_signsOf_57 rfl ?_
        refine aw_ireturn dX7_signsOf_61 rfl (Nat.le_refl _) (Nat.le_refl _) ?_
        refine ⟨am_ri ?_, rfl, rfl⟩
        unfold sgn
        first | omega | (split <;> first | omega | (split <;> first | omega | (split <;> omega)))
  · refine aw_iload_n dX7_signsOf_5 rfl ?_
    refine aw_if_lt 35 dX7_signsOf_6 rfl (fun c6 => ?_) (fun c6 => ?_)
    · refine aw_iconst dX7_signsOf_35 (by decide) (by decide) ?_
      refine aw_ireturn dX7_signsOf_36 rfl (Nat.le_refl _) (Nat.le_refl _) ?_
      refine ⟨am_ri ?_, rfl, rfl⟩
      unfold sgn
      first | omega | (split <;> first | omega | (split <;> first | omega | (split <;> omega)))
    · refine aw_iload_n dX7_signsOf_9 rfl ?_
      refine aw_bipush dX7_signsOf_10 (by decide) (by decide) ?_
      refine aw_icmp_gt 35 dX7_signsOf_12 rfl (fun c12 => ?_) (fun c12 => ?_)
      · refine aw_iconst dX7_signsOf_35 (by decide) (by decide) ?_
        refine aw_ireturn dX7_signsOf_36 rfl (Nat.le_refl _) (Nat.le_refl _) ?_
        refine ⟨am_ri ?_, rfl, rfl⟩
        unfold sgn
        first | omega | (split <;> first | omega | (split <;> first | omega | (split <;> omega)))
      · refine aw_gs_ROMAN_SIGNS dX7_signsOf_15 gs_RX7_91 ?_
        refine aw_iload_n dX7_signsOf_18 rfl ?_
        refine aw_bipush dX7_signsOf_19 (by decide) (by decide) ?_
        refine aw_idiv dX7_signsOf_21 (by omega) (by omega) ?_
        refine aw_iaload dX7_signsOf_22 (by first | rfl | assumption) (by omega) (by omega) ?_
        refine aw_gs_ROMAN_SIGNS dX7_signsOf_23 gs_RX7_91 ?_
        refine aw_iload_n dX7_signsOf_26 rfl ?_
        refine aw_bipush dX7_signsOf_27 (by decide) (by decide) ?_
        refine aw_irem dX7_signsOf_29 (by omega) (by omega) ?_
        refine aw_iaload dX7_signsOf_30 (by first | rfl | assumption) (by omega) (by omega) ?_
        refine aw_iadd dX7_signsOf_31 (by omega) (by omega) ?_
        refine aw_goto 36 dX7_signsOf_32 rfl ?_
        refine aw_ireturn dX7_signsOf_36 rfl (Nat.le_refl _) (Nat.le_refl _) ?_
        refine ⟨am_ri ?_, rfl, rfl⟩
        unfold sgn
        first | omega | (split <;> first | omega | (split <;> first | omega | (split <;> omega)))
theorem c_X7_frozenBits_l {Q : Option AV → Tp → Mem → Prop} {a : Nat} (hs : IsSh t a) (h0 : 0 ≤ h a 0) (h1 : h a 0 ≤ 12) (k : AW M_X7_frozenBits 0 0 Q 33 [some (vR a), some (vI (bset (fun i => decide (0 < h (a + 4) i)) (h a 0).toNat)), some (vI (h a 0))] [] t h 0 0) :
    ∀ (m : Nat) (i : Nat), (i : Int) + m = h a 0 → AW M_X7_frozenBits 0 0 Q 4 [some (vR a), some (vI (bset (fun i => decide (0 < h (a + 4) i)) i)), some (vI i)] [] t h 0 0 := by
  obtain ⟨s0, s1, s2, s3, s4, r5, r6, r7, r8, lt⟩ := id hs
  intro m
  induction m with
  | zero =>
    intro i hi
    have e0 : (i : Int) = h a 0 := by omega
    have e1 : (h a 0).toNat = i := by omega
    rw [e1, ← e0] at k
    refine aw_iload_n dX7_frozenBits_4 rfl ?_
    refine aw_aload_n dX7_frozenBits_5 rfl ?_
    refine aw_getI dX7_frozenBits_6 fx_RX7_24 (by first | rfl | assumption) ?_
    refine aw_icmp_ge 33 dX7_frozenBits_9 rfl (fun c9 => ?_) (fun c9 => ?_)
    · exact k
    · exfalso; omega
  | succ m ih =>
    intro i hi
    have z := ih (i + 1) (by omega)
    refine aw_iload_n dX7_frozenBits_4 rfl ?_
    refine aw_aload_n dX7_frozenBits_5 rfl ?_
    refine aw_getI dX7_frozenBits_6 fx_RX7_24 (by first | rfl | assumption) ?_
    refine aw_icmp_ge 33 dX7_frozenBits_9 rfl (fun c9 => ?_) (fun c9 => ?_)
    · exfalso; omega
    · refine aw_aload_n dX7_frozenBits_12 rfl ?_
      refine aw_getR1 dX7_frozenBits_13 fx_RX7_21 (by first | rfl | assumption) (by first | rfl | assumption) ?_
      refine aw_iload_n dX7_frozenBits_16 rfl ?_
      refine aw_iaload dX7_frozenBits_17 (by first | rfl | assumption) (by omega) (by omega) ?_
      refine aw_if_le 27 dX7_frozenBits_18 rfl (fun c18 => ?_) (fun c18 => ?_)
      · rw [bset_f (by simpa using c18)] at z
        refine aw_iinc (ls' := [_, _, _]) dX7_frozenBits_27 (by decide) rfl (by omega) (by omega) rfl ?_
        refine aw_goto 4 dX7_frozenBits_30 rfl ?_
        exact z
      · refine aw_iload_n dX7_frozenBits_21 rfl ?_
        refine aw_iconst dX7_frozenBits_22 (by decide) (by decide) ?_
        refine aw_iload_n dX7_frozenBits_23 rfl ?_
        refine aw_ishlw dX7_frozenBits_24 ?_
        refine aw_iorw dX7_frozenBits_25 ?_
        refine aw_istore_n (ls' := [_, _, _]) dX7_frozenBits_26 (by decide) rfl ?_
        refine aw_iinc (ls' := [_, _, _]) dX7_frozenBits_27 (by decide) rfl (by omega) (by omega) rfl ?_
        refine aw_goto 4 dX7_frozenBits_30 rfl ?_
        rw [bset_t (by simpa using c18)] at z
        exact z
theorem c_X7_frozenBits {a : Nat} (hs : IsSh t a) (h0 : 0 ≤ h a 0) (h1 : h a 0 ≤ 12) : SemE M_X7_frozenBits [vR a] t h (some (vI (bset (fun i => decide (0 < h (a + 4) i)) (h a 0).toNat))) t h := by
  refine sem_intro (by decide) rfl (Nat.le_of_ble_eq_true rfl) rfl ?_
  refine aw_iconst dX7_frozenBits_0 (by decide) (by decide) ?_
  refine aw_istore_n (ls' := [_, _, _]) dX7_frozenBits_1 (by decide) rfl ?_
  refine aw_iconst dX7_frozenBits_2 (by decide) (by decide) ?_
  refine aw_istore_n (ls' := [_, _, _]) dX7_frozenBits_3 (by decide) rfl ?_
  refine c_X7_frozenBits_l hs h0 h1 ?_ (h a 0).toNat 0 (by omega)
  refine aw_iload_n dX7_frozenBits_33 rfl ?_
  exact aw_ireturn dX7_frozenBits_34 rfl (Nat.le_refl _) (Nat.le_refl _) ⟨rfl, rfl, rfl⟩
theorem c_X7_wideBy {a pg : Nat} {i : Int} (hs : IsSh t a) (hp : t.2.1 pg = (20, 12)) (hst : t.2.1 1000001 = (20, 10)) (hro : RO h) (hV : WFv (cV h a)) (hg : ∀ k, 0 ≤ k → k < h a 0 → 0 ≤ h pg k ∧ h pg k ≤ 99) (h0 : 0 ≤ i) (h1 : i < h a 0) : SemE M_X7_wideBy [vR a, vR pg, vI i] t h (some (vI (wdg (cV h a) (h pg) i))) t h := by
  obtain ⟨s0, s1, s2, s3, s4, r5, r6, r7, r8, lt⟩ := id hs
  obtain ⟨v1, v2, -, -, -, -, -, -, hi⟩ := hV
  obtain ⟨k1, k2, k3, k4, -, -, k7, k8⟩ := hi i (by omega) (by rw [cVc]; omega)
  rw [cVc] at v1 v2 k3
  rw [cV1 h0 h1] at k1 k2 k3 k4
  rw [cV2 h0 h1] at k3 k4
  rw [cV4 h0 h1] at k7 k8
  unfold wdg
  rw [cV1 h0 h1, cV2 h0 h1, cV4 h0 h1]
  refine sem_intro (by decide) rfl (Nat.le_of_ble_eq_true rfl) rfl ?_
  refine aw_aload_n dX7_wideBy_0 rfl ?_
  refine aw_getR1 dX7_wideBy_1 fx_RX7_9 (by first | rfl | assumption) (by first | rfl | assumption) ?_
  refine aw_iload_n dX7_wideBy_4 rfl ?_
  refine aw_iaload dX7_wideBy_5 (by first | rfl | assumption) (by omega) (by omega) ?_
  refine aw_iconst dX7_wideBy_6 (by decide) (by decide) ?_
  refine aw_icmp_ne 17 dX7_wideBy_7 rfl (fun c7 => ?_) (fun c7 => ?_)
  · refine aw_aload_n dX7_wideBy_17 rfl ?_
    refine aw_getR1 dX7_wideBy_18 fx_RX7_9 (by first | rfl | assumption) (by first | rfl | assumption) ?_
    refine aw_iload_n dX7_wideBy_21 rfl ?_
    refine aw_iaload dX7_wideBy_22 (by first | rfl | assumption) (by omega) (by omega) ?_
    refine aw_iconst dX7_wideBy_23 (by decide) (by decide) ?_
    refine aw_icmp_ne 29 dX7_wideBy_24 rfl (fun c24 => ?_) (fun c24 => ?_)
    · have g3 := k3 (by omega)
      have g4 := hg _ g3.1 g3.2
      refine aw_aload_n dX7_wideBy_29 rfl ?_
      refine aw_getR1 dX7_wideBy_30 fx_RX7_15 (by first | rfl | assumption) (by first | rfl | assumption) ?_
      refine aw_iload_n dX7_wideBy_33 rfl ?_
      refine aw_iaload dX7_wideBy_34 (by first | rfl | assumption) (by omega) (by omega) ?_
      refine aw_istore_n (ls' := [_, _, _, _, _]) dX7_wideBy_35 (by decide) rfl ?_
      refine aw_iload_n dX7_wideBy_36 rfl ?_
      refine aw_if_lt 54 dX7_wideBy_37 rfl (fun c37 => ?_) (fun c37 => ?_)
      · exfalso; omega
      · refine aw_iload_n dX7_wideBy_40 rfl ?_
        refine aw_aload_n dX7_wideBy_41 rfl ?_
        refine aw_getI dX7_wideBy_42 fx_RX7_24 (by first | rfl | assumption) ?_
        refine aw_icmp_ge 54 dX7_wideBy_45 rfl (fun c45 => ?_) (fun c45 => ?_)
        · exfalso; omega
        · refine aw_aload_n dX7_wideBy_48 rfl ?_
          refine aw_iload_n dX7_wideBy_49 rfl ?_
          refine aw_iaload dX7_wideBy_50 (by first | rfl | assumption) (by omega) (by omega) ?_
          refine aw_goto 58 dX7_wideBy_51 rfl ?_
          refine aw_istore (ls' := [_, _, _, _, _]) dX7_wideBy_58 (by decide) rfl ?_
          refine aw_aload_n dX7_wideBy_60 rfl ?_
          refine aw_getR1 dX7_wideBy_61 fx_RX7_21 (by first | rfl | assumption) (by first | rfl | assumption) ?_
          refine aw_iload_n dX7_wideBy_64 rfl ?_
          refine aw_iaload dX7_wideBy_65 (by first | rfl | assumption) (by omega) (by omega) ?_
          refine aw_aload_n dX7_wideBy_66 rfl ?_
          refine aw_getR1 dX7_wideBy_67 fx_RX7_9 (by first | rfl | assumption) (by first | rfl | assumption) ?_
          refine aw_iload_n dX7_wideBy_70 rfl ?_
          refine aw_iaload dX7_wideBy_71 (by first | rfl | assumption) (by omega) (by omega) ?_
          refine aw_iload dX7_wideBy_72 rfl ?_
          refine aw_s2i dX7_wideBy_74 sl_RX7_59 (Nat.le_of_ble_eq_true rfl) (Nat.le_of_ble_eq_true rfl) (Nat.le_of_ble_eq_true rfl) (Nat.le_refl _) (Nat.le_refl _) (c_X7_signsOf hst hro (by omega) (by omega)) ?_
          refine aw_mmax dX7_wideBy_77 mx_RX7_63 (by decide) (Nat.le_of_ble_eq_true rfl) (Nat.le_refl _) (Nat.le_refl _) ?_
          refine aw_ireturn dX7_wideBy_80 rfl (Nat.le_refl _) (Nat.le_refl _) ?_
          exact ⟨am_ri (by rw [if_neg c7, if_neg c24]), rfl, rfl⟩
    · refine aw_iconst dX7_wideBy_27 (by decide) (by decide) ?_
      refine aw_ireturn dX7_wideBy_28 rfl (Nat.le_refl _) (Nat.le_refl _) ?_
      exact ⟨am_ri (by rw [if_neg c7, if_pos c24]), rfl, rfl⟩
  · refine aw_aload_n dX7_wideBy_10 rfl ?_
    refine aw_getR1 dX7_wideBy_11 fx_RX7_15 (by first | rfl | assumption) (by first | rfl | assumption) ?_
    refine aw_iload_n dX7_wideBy_14 rfl ?_
    refine aw_iaload dX7_wideBy_15 (by first | rfl | assumption) (by omega) (by omega) ?_
    refine aw_ireturn dX7_wideBy_16 rfl (Nat.le_refl _) (Nat.le_refl _) ?_
    exact ⟨am_ri (if_pos c7).symm, rfl, rfl⟩
end SHT
