def an (x y : Int) : Int := (Int32.ofInt x &&& Int32.ofInt y).toInt
def us (x k : Int) : Int := ((Int32.ofInt x).toUInt32 >>> ((Int32.ofInt k).toUInt32 &&& Int32.toUInt32 31)).toInt32.toInt
def sr (x k : Int) : Int := (Int32.ofInt x >>> (Int32.ofInt k &&& 31)).toInt
def bcA (x : Int) : Int := wr (x - an (us x 1) 1431655765)
def bcB (x : Int) : Int := wr (an x 858993459 + an (us x 2) 858993459)
def bcC (x : Int) : Int := an (wr (x + us x 4)) 252645135
def bcD (x : Int) : Int := wr (x + us x 8)
def bcE (x : Int) : Int := wr (x + us x 16)
def bcx (x : Int) : Int := an (bcE (bcD (bcC (bcB (bcA x))))) 63
def onesN (x : Int) : Nat → Int
  | 0 => 0
  | k + 1 => onesN x k + an (sr x k) 1
set_option maxRecDepth 100000 in
theorem bc_eq : ∀ k : Nat, k < 4096 → bcx k = onesN k 12 := by decide +kernel
set_option maxRecDepth 100000 in
theorem ior_shl : ∀ n : Nat, n < 12 → ∀ b : Nat, b < 2 ^ n → ior b (shl1 n) = (b : Int) + ((2 ^ n : Nat) : Int) := by decide +kernel
theorem bset_bd {P : Nat → Bool} : ∀ n : Nat, n ≤ 12 → ∃ b : Nat, bset P n = (b : Int) ∧ b < 2 ^ n
  | 0, _ => ⟨0, rfl, by decide⟩
  | n + 1, h => by
    obtain ⟨b, e, hb⟩ := bset_bd (P := P) n (by omega)
    by_cases hp : P n = true
    · refine ⟨b + 2 ^ n, ?_, by rw [Nat.pow_succ]; omega⟩
      rw [bset_t hp, e, ior_shl n (by omega) b hb]
      omega
    · exact ⟨b, by rw [bset_f (by simpa using hp)]; exact e, by rw [Nat.pow_succ]; omega⟩
theorem bset_12 {P : Nat → Bool} {n : Nat} (h : n ≤ 12) : ∃ b : Nat, bset P n = (b : Int) ∧ b < 4096 := by
  obtain ⟨b, e, hb⟩ := bset_bd (P := P) n h
  exact ⟨b, e, Nat.lt_of_lt_of_le hb (Nat.pow_le_pow_right (by decide) h)⟩
theorem c_bitCount {t : Tp} {h : Mem} {x : Int} : SemE M_J6_bitCount_0f7a4 [vI x] t h (some (vI (bcx x))) t h := by
  refine sem_intro (by decide) rfl (Nat.le_of_ble_eq_true rfl) rfl ?_
  refine aw_iload_n dJ6_bitCount_0f7a4_0 rfl ?_
  refine aw_iload_n dJ6_bitCount_0f7a4_1 rfl ?_
  refine aw_iconst dJ6_bitCount_0f7a4_2 (by decide) (by decide) ?_
  refine aw_iushrw dJ6_bitCount_0f7a4_3 ?_
  refine aw_ldc_w (n := 1431655765) dJ6_bitCount_0f7a4_4 kc_RJ6_265 (by decide) ?_
  refine aw_iandw dJ6_bitCount_0f7a4_7 ?_
  refine aw_isubw dJ6_bitCount_0f7a4_8 ?_
  refine aw_istore_n (ls' := [_]) dJ6_bitCount_0f7a4_9 (by decide) rfl ?_
  refine aw_iload_n dJ6_bitCount_0f7a4_10 rfl ?_
  refine aw_ldc_w (n := 858993459) dJ6_bitCount_0f7a4_11 kc_RJ6_266 (by decide) ?_
  refine aw_iandw dJ6_bitCount_0f7a4_14 ?_
  refine aw_iload_n dJ6_bitCount_0f7a4_15 rfl ?_
  refine aw_iconst dJ6_bitCount_0f7a4_16 (by decide) (by decide) ?_
  refine aw_iushrw dJ6_bitCount_0f7a4_17 ?_
  refine aw_ldc_w (n := 858993459) dJ6_bitCount_0f7a4_18 kc_RJ6_266 (by decide) ?_
  refine aw_iandw dJ6_bitCount_0f7a4_21 ?_
  refine aw_iaddw dJ6_bitCount_0f7a4_22 ?_
  refine aw_istore_n (ls' := [_]) dJ6_bitCount_0f7a4_23 (by decide) rfl ?_
  refine aw_iload_n dJ6_bitCount_0f7a4_24 rfl ?_
  refine aw_iload_n dJ6_bitCount_0f7a4_25 rfl ?_
  refine aw_iconst dJ6_bitCount_0f7a4_26 (by decide) (by decide) ?_
  refine aw_iushrw dJ6_bitCount_0f7a4_27 ?_
  refine aw_iaddw dJ6_bitCount_0f7a4_28 ?_
  refine aw_ldc_w (n := 252645135) dJ6_bitCount_0f7a4_29 kc_RJ6_267 (by decide) ?_
  refine aw_iandw dJ6_bitCount_0f7a4_32 ?_
  refine aw_istore_n (ls' := [_]) dJ6_bitCount_0f7a4_33 (by decide) rfl ?_
  refine aw_iload_n dJ6_bitCount_0f7a4_34 rfl ?_
  refine aw_iload_n dJ6_bitCount_0f7a4_35 rfl ?_
  refine aw_bipush dJ6_bitCount_0f7a4_36 (by decide) (by decide) ?_
  refine aw_iushrw dJ6_bitCount_0f7a4_38 ?_
  refine aw_iaddw dJ6_bitCount_0f7a4_39 ?_
  refine aw_istore_n (ls' := [_]) dJ6_bitCount_0f7a4_40 (by decide) rfl ?_
  refine aw_iload_n dJ6_bitCount_0f7a4_41 rfl ?_
  refine aw_iload_n dJ6_bitCount_0f7a4_42 rfl ?_
  refine aw_bipush dJ6_bitCount_0f7a4_43 (by decide) (by decide) ?_
  refine aw_iushrw dJ6_bitCount_0f7a4_45 ?_
  refine aw_iaddw dJ6_bitCount_0f7a4_46 ?_
  refine aw_istore_n (ls' := [_]) dJ6_bitCount_0f7a4_47 (by decide) rfl ?_
  refine aw_iload_n dJ6_bitCount_0f7a4_48 rfl ?_
  refine aw_bipush dJ6_bitCount_0f7a4_49 (by decide) (by decide) ?_
  refine aw_iandw dJ6_bitCount_0f7a4_51 ?_
  refine aw_ireturn dJ6_bitCount_0f7a4_52 rfl (Nat.le_refl _) (Nat.le_refl _) ?_
  exact ⟨rfl, rfl, rfl⟩
