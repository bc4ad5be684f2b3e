theorem sr_eq {x : Int} {i : Nat} (h0 : -2147483648 ≤ x) (h1 : x ≤ 2147483647) (hi : i < 32) : (Int32.ofInt x >>> (Int32.ofInt (i : Int) &&& 31)).toInt = x / 2 ^ i := by
  have e : ∀ i : Nat, i < 32 → ((Int32.ofInt (i : Int) &&& 31).toBitVec.smod 32).toNat = i := by decide
  have ex : (Int32.ofInt x).toInt = x := Int32.toInt_ofInt_of_le (by omega) (by omega)
  rw [← Int32.toInt_toBitVec, Int32.toBitVec_shiftRight, BitVec.sshiftRight', e i hi, BitVec.toInt_sshiftRight, Int32.toInt_toBitVec, ex, Int.shiftRight_eq_div_pow]
  norm_cast
theorem an1_eq {x : Nat} (h : x ≤ 2147483647) : (Int32.ofInt (x : Int) &&& Int32.ofInt 1).toInt = ((x % 2 : Nat) : Int) := by
  have e : (Int32.ofInt (x : Int)).toBitVec = BitVec.ofNat 32 x := by
    show BitVec.ofInt 32 (x : Int) = _
    exact BitVec.ofInt_natCast _ _
  have e1 : (Int32.ofInt 1).toBitVec = BitVec.ofNat 32 1 := by decide
  rw [← Int32.toInt_toBitVec, Int32.toBitVec_and, e, e1]
  have en : (BitVec.ofNat 32 x &&& BitVec.ofNat 32 1).toNat = x % 2 := by
    rw [BitVec.toNat_and, BitVec.toNat_ofNat, BitVec.toNat_ofNat, Nat.mod_eq_of_lt (by omega), show 1 % 2 ^ 32 = 1 from by decide, Nat.and_one_is_mod]
  rw [BitVec.toInt_eq_toNat_of_lt (by rw [en]; omega), en]
theorem bit_eq {x i : Nat} (h : x ≤ 2147483647) (hi : i < 32) : (Int32.ofInt (Int32.ofInt (x : Int) >>> (Int32.ofInt (i : Int) &&& 31)).toInt &&& Int32.ofInt 1).toInt = ((x / 2 ^ i % 2 : Nat) : Int) := by
  rw [sr_eq (by omega) (by omega) hi]
  have e : (x : Int) / 2 ^ i = ((x / 2 ^ i : Nat) : Int) := by norm_cast
  rw [e]
  have := Nat.div_le_self x (2 ^ i)
  exact an1_eq (by omega)
theorem shl1_eq : ∀ w : Nat, w < 31 → shl1 (w : Int) = ((2 ^ w : Nat) : Int) := by decide
theorem shl1_eq' {w : Nat} (h : w < 31) : (Int32.ofInt 1 <<< (Int32.ofInt (w : Int) &&& 31)).toInt = ((2 ^ w : Nat) : Int) := shl1_eq w h
theorem bit_hi {w i ch : Nat} (h : i < w) : (2 ^ w + ch) / 2 ^ i % 2 = ch / 2 ^ i % 2 := by
  have e : 2 ^ w = 2 ^ i * (2 * 2 ^ (w - i - 1)) := by
    rw [← Nat.pow_succ', ← Nat.pow_add]
    congr 1
    omega
  rw [e, Nat.mul_add_div (Nat.two_pow_pos i)]
  omega
theorem bit_top {w ch : Nat} (h : ch < 2 ^ w) : (2 ^ w + ch) / 2 ^ w % 2 = 1 := by
  have e : (2 ^ w + ch) / 2 ^ w = 1 := by
    rw [Nat.add_div_left _ (Nat.two_pow_pos w), Nat.div_eq_of_lt h]
  rw [e]
theorem bit_low {w ch : Nat} (h : ch < 2 ^ w) : ch / 2 ^ w % 2 = 0 := by
  rw [Nat.div_eq_of_lt h]
def SF (F : Nat → Int) : Nat → Int
  | 0 => 0
  | n + 1 => SF F n + F n
theorem SF_add {F : Nat → Int} (a : Nat) : ∀ b : Nat, SF F (a + b) = SF F a + SF (fun i => F (a + i)) b
  | 0 => by show SF F a = SF F a + 0; omega
  | b + 1 => by
    show SF F (a + b) + F (a + b) = SF F a + (SF (fun i => F (a + i)) b + F (a + b))
    rw [SF_add a b]; omega
theorem SF_congr {F G : Nat → Int} : ∀ n : Nat, (∀ i, i < n → F i = G i) → SF F n = SF G n
  | 0, _ => rfl
  | n + 1, h => by
    show SF F n + F n = SF G n + G n
    rw [SF_congr n (fun i hi => h i (by omega)), h n (by omega)]
theorem SF_mul {F : Nat → Int} {c : Int} : ∀ n : Nat, SF (fun i => F i * c) n = SF F n * c
  | 0 => by show (0 : Int) = 0 * c; rw [Int.zero_mul]
  | n + 1 => by
    show SF (fun i => F i * c) n + F n * c = (SF F n + F n) * c
    rw [SF_mul n, Int.add_mul]
