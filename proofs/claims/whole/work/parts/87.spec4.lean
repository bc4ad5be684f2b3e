/-! chance over all sets of words, as the reference counts it -/
def upW (V : VW) (k : Int) : VW := if V 2 k < 20 then upV V k else V
def As (c : Int) : Nat → VW → Int
  | 0, V => if okS V = true then 1 else 0
  | k + 1, V => if V 1 k = 4 then As c k V * (10 - c) + As c k (upW V k) * c else As c k V
/-- how many words cannot grow, and how many words there are -/
def uN (V : VW) : Nat → Nat
  | 0 => 0
  | k + 1 => if V 1 k = 4 ∧ ¬ V 2 k < 20 then uN V k + 1 else uN V k
def bN (V : VW) : Nat → Int
  | 0 => 1
  | k + 1 => if V 1 k = 4 then bN V k * 10 else bN V k * 1
theorem uN_up {V : VW} {p : Int} : ∀ k : Nat, (k : Int) ≤ p → uN (upV V p) k = uN V k
  | 0, _ => rfl
  | k + 1, h => by
    have e1 : upV V p 1 k = V 1 k := setV_ne (by omega)
    have e2 : upV V p 2 k = V 2 k := setV_ne (by omega)
    unfold uN
    rw [e1, e2, uN_up k (by omega)]
theorem As_Gs {c : Int} : ∀ (k : Nat) (V : VW), As c k V = 10 ^ uN V k * Gs c k V
  | 0, V => by
    show (if okS V = true then (1 : Int) else 0) = 10 ^ 0 * (if okS V = true then 1 else 0)
    rw [Int.pow_zero, Int.one_mul]
  | k + 1, V => by
    have eA : As c (k + 1) V = if V 1 k = 4 then As c k V * (10 - c) + As c k (upW V k) * c else As c k V := rfl
    have eG : Gs c (k + 1) V = if gr V k then Gs c k V * (10 - c) + Gs c k (upV V k) * c else Gs c k V := rfl
    have eU : uN V (k + 1) = if V 1 k = 4 ∧ ¬ V 2 k < 20 then uN V k + 1 else uN V k := rfl
    rw [eA, eG, eU]
    by_cases a : V 1 k = 4
    · by_cases b : V 2 k < 20
      · have ew : upW V k = upV V k := if_pos b
        rw [if_pos a, if_pos (show gr V k from ⟨a, b⟩), if_neg (fun z => z.2 b), ew, As_Gs k V, As_Gs k (upV V k), uN_up k (Int.le_refl _), Int.mul_add, Int.mul_assoc, Int.mul_assoc]
      · have ew : upW V k = V := if_neg b
        rw [if_pos a, if_neg (fun z : gr V k => b z.2), if_pos ⟨a, b⟩, ew, As_Gs k V, ← Int.mul_add, show 10 - c + c = 10 by omega, Int.pow_succ]
        rw [Int.mul_assoc, Int.mul_assoc, Int.mul_comm 10]
    · rw [if_neg a, if_neg (fun z : gr V k => a z.1), if_neg (fun z => a z.1), As_Gs k V]
theorem bN_gB {V : VW} : ∀ k : Nat, bN V k = 10 ^ uN V k * gB V k
  | 0 => rfl
  | k + 1 => by
    have eA : bN V (k + 1) = if V 1 k = 4 then bN V k * 10 else bN V k * 1 := rfl
    have eG : gB V (k + 1) = if gr V k then gB V k * 10 else gB V k := rfl
    have eU : uN V (k + 1) = if V 1 k = 4 ∧ ¬ V 2 k < 20 then uN V k + 1 else uN V k := rfl
    rw [eA, eG, eU]
    by_cases a : V 1 k = 4
    · by_cases b : V 2 k < 20
      · rw [if_pos a, if_pos (show gr V k from ⟨a, b⟩), if_neg (fun z => z.2 b), bN_gB k, Int.mul_assoc]
      · rw [if_pos a, if_neg (fun z : gr V k => b z.2), if_pos ⟨a, b⟩, bN_gB k, Int.pow_succ, Int.mul_assoc, Int.mul_assoc, Int.mul_comm (gB V k)]
    · rw [if_neg a, if_neg (fun z : gr V k => a z.1), if_neg (fun z => a z.1), bN_gB k, Int.mul_one]
theorem frac_eq {t a b x : Int} (ht : 0 < t) : (t * x) / (Int.gcd (t * a) (t * b) : Int) = x / (Int.gcd a b : Int) := by
  rw [Int.gcd_mul_left, Int.natCast_mul, Int.natAbs_of_nonneg (by omega)]
  exact Int.mul_ediv_mul_of_pos _ _ ht
/-! the sets, as numbers -/
def wy (c : Int) (V : VW) (s : Nat) : Nat → Int
  | 0 => 1
  | k + 1 => wy c V s k * (if V 1 k = 4 then (if s / 2 ^ k % 2 = 1 then c else 10 - c) else 1)
def gw (V : VW) (s : Nat) : Nat → VW
  | 0 => V
  | k + 1 => if s / 2 ^ k % 2 = 1 then upW (gw V s k) k else gw V s k
def sbs (V : VW) (s : Nat) : Nat → Bool
  | 0 => true
  | k + 1 => sbs V s k && (decide (s / 2 ^ k % 2 = 0) || decide (V 1 k = 4))
def hF (c : Int) (V : VW) (k s : Nat) : Int := if sbs V s k = true ∧ okS (gw V s k) = true then wy c V s k else 0
theorem sbs_iff {V : VW} {s : Nat} : ∀ k : Nat, sbs V s k = true ↔ ∀ i : Nat, i < k → s / 2 ^ i % 2 = 1 → V 1 i = 4
  | 0 => by simp [sbs]
  | k + 1 => by
    show (sbs V s k && (decide (s / 2 ^ k % 2 = 0) || decide (V 1 k = 4))) = true ↔ _
    rw [Bool.and_eq_true, Bool.or_eq_true, decide_eq_true_eq, decide_eq_true_eq, sbs_iff k]
    constructor
    · rintro ⟨a, b⟩ i hi hb
      by_cases e : i = k
      · subst e
        rcases b with b | b
        · omega
        · exact b
      · exact a i (by omega) hb
    · intro a
      refine ⟨fun i hi hb => a i (by omega) hb, ?_⟩
      by_cases e : s / 2 ^ k % 2 = 1
      · exact Or.inr (a k (by omega) e)
      · exact Or.inl (by omega)
theorem upW_1 {V : VW} {p : Int} {j : Nat} {k : Int} (h : j ≠ 2 ∨ k ≠ p) : upW V p j k = V j k := by
  unfold upW upV
  split
  · exact setV_ne (by omega)
  · rfl
theorem sbs_cg {V W : VW} {s r : Nat} : ∀ k : Nat, (∀ i : Nat, i < k → V 1 i = W 1 i ∧ s / 2 ^ i % 2 = r / 2 ^ i % 2) → sbs V s k = sbs W r k
  | 0, _ => rfl
  | k + 1, h => by
    unfold sbs
    rw [sbs_cg k (fun i hi => h i (by omega)), (h k (by omega)).1, (h k (by omega)).2]
theorem wy_cg {c : Int} {V W : VW} {s r : Nat} : ∀ k : Nat, (∀ i : Nat, i < k → V 1 i = W 1 i ∧ s / 2 ^ i % 2 = r / 2 ^ i % 2) → wy c V s k = wy c W r k
  | 0, _ => rfl
  | k + 1, h => by
    unfold wy
    rw [wy_cg k (fun i hi => h i (by omega)), (h k (by omega)).1, (h k (by omega)).2]
theorem gw_cg {V : VW} {s r : Nat} : ∀ k : Nat, (∀ i : Nat, i < k → s / 2 ^ i % 2 = r / 2 ^ i % 2) → gw V s k = gw V r k
  | 0, _ => rfl
  | k + 1, h => by
    unfold gw
    rw [gw_cg k (fun i hi => h i (by omega)), h k (by omega)]
theorem upW_cm {A : VW} {p q : Int} (h : p ≠ q) : upW (upW A p) q = upW (upW A q) p := by
  have e1 : upW A p 2 q = A 2 q := upW_1 (Or.inr (fun z => h z.symm))
  have e2 : upW A q 2 p = A 2 p := upW_1 (Or.inr h)
  have cm : upV (upV A p) q = upV (upV A q) p := setV_cm
  have d1 : upW (upW A p) q = if A 2 q < 20 then upV (upW A p) q else upW A p := by
    show (if upW A p 2 q < 20 then _ else _) = _
    rw [e1]
  have d2 : upW (upW A q) p = if A 2 p < 20 then upV (upW A q) p else upW A q := by
    show (if upW A q 2 p < 20 then _ else _) = _
    rw [e2]
  rw [d1, d2]
  unfold upW
  by_cases a : A 2 p < 20
  · by_cases b : A 2 q < 20
    · rw [if_pos b, if_pos a, if_pos a, if_pos b]; exact cm
    · rw [if_neg b, if_pos a, if_pos a, if_neg b]
  · by_cases b : A 2 q < 20
    · rw [if_pos b, if_neg a, if_neg a, if_pos b]
    · rw [if_neg b, if_neg a, if_neg a, if_neg b]
theorem gw_up {V : VW} {s : Nat} {p : Int} : ∀ k : Nat, (k : Int) ≤ p → gw (upW V p) s k = upW (gw V s k) p
  | 0, _ => rfl
  | k + 1, h => by
    have e : gw (upW V p) s (k + 1) = if s / 2 ^ k % 2 = 1 then upW (gw (upW V p) s k) k else gw (upW V p) s k := rfl
    have e2 : gw V s (k + 1) = if s / 2 ^ k % 2 = 1 then upW (gw V s k) k else gw V s k := rfl
    rw [e, e2, gw_up k (by omega)]
    split
    · exact upW_cm (by omega)
    · rfl
theorem As_eq {c : Int} : ∀ (k : Nat) (V : VW), SF (hF c V k) (2 ^ k) = As c k V
  | 0, V => by
    show 0 + (if true = true ∧ okS V = true then (1 : Int) else 0) = if okS V = true then (1 : Int) else 0
    by_cases y : okS V = true
    · rw [if_pos ⟨rfl, y⟩, if_pos y]; omega
    · rw [if_neg (fun z => y z.2), if_neg y]; omega
  | k + 1, V => by
    have eA : As c (k + 1) V = if V 1 k = 4 then As c k V * (10 - c) + As c k (upW V k) * c else As c k V := rfl
    have lo : SF (hF c V (k + 1)) (2 ^ k) = As c k V * (if V 1 k = 4 then 10 - c else 1) := by
      rw [← As_eq k V, ← SF_mul]
      refine SF_congr _ (fun s hs => ?_)
      have b0 := bit_low hs
      have e1 : sbs V s (k + 1) = sbs V s k := by
        show (sbs V s k && (decide (s / 2 ^ k % 2 = 0) || decide (V 1 k = 4))) = _
        rw [b0]; simp
      have e2 : gw V s (k + 1) = gw V s k := if_neg (by omega)
      have e3 : wy c V s (k + 1) = wy c V s k * (if V 1 k = 4 then 10 - c else 1) := by
        show wy c V s k * (if V 1 k = 4 then (if s / 2 ^ k % 2 = 1 then c else 10 - c) else 1) = _
        rw [b0, if_neg (show ¬ ((0 : Nat) = 1) by decide)]
      unfold hF
      rw [e1, e2, e3]
      split
      · rfl
      · rw [Int.zero_mul]
    have hiS : SF (fun i => hF c V (k + 1) (2 ^ k + i)) (2 ^ k) = if V 1 k = 4 then As c k (upW V k) * c else 0 := by
      by_cases a : V 1 k = 4
      · rw [if_pos a, ← As_eq k (upW V k), ← SF_mul]
        refine SF_congr _ (fun s hs => ?_)
        have b1 := bit_top hs
        have bh : ∀ i : Nat, i < k → (2 ^ k + s) / 2 ^ i % 2 = s / 2 ^ i % 2 := fun i hi => bit_hi hi
        have e1 : sbs V (2 ^ k + s) (k + 1) = sbs (upW V k) s k := by
          show (sbs V (2 ^ k + s) k && (decide ((2 ^ k + s) / 2 ^ k % 2 = 0) || decide (V 1 k = 4))) = _
          rw [decide_eq_true a, Bool.or_true, Bool.and_true]
          exact sbs_cg k (fun i hi => ⟨(upW_1 (Or.inl (by decide))).symm, bh i hi⟩)
        have e2 : gw V (2 ^ k + s) (k + 1) = gw (upW V k) s k := by
          show (if (2 ^ k + s) / 2 ^ k % 2 = 1 then upW (gw V (2 ^ k + s) k) k else _) = _
          rw [if_pos b1, gw_up k (Int.le_refl _), gw_cg k bh]
        have e3 : wy c V (2 ^ k + s) (k + 1) = wy c (upW V k) s k * c := by
          show wy c V (2 ^ k + s) k * (if V 1 k = 4 then (if (2 ^ k + s) / 2 ^ k % 2 = 1 then c else 10 - c) else 1) = _
          rw [if_pos a, if_pos b1, wy_cg (W := upW V k) (r := s) k (fun i hi => ⟨(upW_1 (Or.inl (by decide))).symm, bh i hi⟩)]
        unfold hF
        rw [e1, e2, e3]
        split
        · rfl
        · rw [Int.zero_mul]
      · rw [if_neg a]
        have : SF (fun i => hF c V (k + 1) (2 ^ k + i)) (2 ^ k) = SF (fun _ => (0 : Int)) (2 ^ k) := SF_congr _ (fun s hs => by
          show hF c V (k + 1) (2 ^ k + s) = 0
          refine if_neg (fun z => a ?_)
          exact (sbs_iff (k + 1)).mp z.1 k (by omega) (bit_top hs))
        rw [this]
        have zero : ∀ n : Nat, SF (fun _ => (0 : Int)) n = 0 := fun n => by
          induction n with
          | zero => rfl
          | succ n ih => show SF (fun _ => (0 : Int)) n + 0 = 0; rw [ih]; rfl
        exact zero _
    rw [Nat.pow_succ, Nat.mul_two, SF_add, lo, hiS, eA]
    by_cases a : V 1 k = 4
    · rw [if_pos a, if_pos a, if_pos a]
    · rw [if_neg a, if_neg a, if_neg a, Int.mul_one, Int.add_zero]
/-! the words, as a number -/
def wN (V : VW) : Nat → Nat
  | 0 => 0
  | k + 1 => wN V k + (if V 1 k = 4 then 2 ^ k else 0)
theorem wN_lt {V : VW} : ∀ k : Nat, wN V k < 2 ^ k
  | 0 => by show 0 < 1; decide
  | k + 1 => by
    have := wN_lt (V := V) k
    unfold wN
    rw [Nat.pow_succ]
    split <;> omega
theorem wN_bit {V : VW} : ∀ (k i : Nat), i < k → (wN V k / 2 ^ i % 2 = 1 ↔ V 1 i = 4)
  | 0, _, h => absurd h (Nat.not_lt_zero _)
  | k + 1, i, h => by
    have lt := wN_lt (V := V) k
    have e : wN V (k + 1) = wN V k + (if V 1 k = 4 then 2 ^ k else 0) := rfl
    by_cases y : i = k
    · subst y
      rw [e]
      by_cases a : V 1 i = 4
      · rw [if_pos a, Nat.add_comm, bit_top lt]
        exact ⟨fun _ => a, fun _ => rfl⟩
      · rw [if_neg a, Nat.add_zero, bit_low lt]
        exact ⟨fun z => absurd z (by decide), fun z => absurd z a⟩
    · rw [e]
      by_cases a : V 1 k = 4
      · rw [if_pos a, Nat.add_comm, bit_hi (by omega)]
        exact wN_bit k i (by omega)
      · rw [if_neg a, Nat.add_zero]
        exact wN_bit k i (by omega)
theorem wN_ge {V : VW} : ∀ (k s : Nat), s < 2 ^ k → sbs V s k = true → s ≤ wN V k
  | 0, s, h, _ => by have : s < 1 := h; omega
  | k + 1, s, h, hs => by
    have hb := (sbs_iff (k + 1)).mp hs
    have e : wN V (k + 1) = wN V k + (if V 1 k = 4 then 2 ^ k else 0) := rfl
    rw [Nat.pow_succ] at h
    by_cases y : s < 2 ^ k
    · have := wN_ge (V := V) k s y ((sbs_iff k).mpr (fun i hi hb2 => hb i (by omega) hb2))
      omega
    · obtain ⟨r, rfl⟩ : ∃ r, s = 2 ^ k + r := ⟨s - 2 ^ k, by omega⟩
      have hr : r < 2 ^ k := by omega
      have a := hb k (by omega) (bit_top hr)
      have := wN_ge (V := V) k r hr ((sbs_iff k).mpr (fun i hi hb2 => hb i (by omega) (by rw [bit_hi hi]; exact hb2)))
      rw [e, if_pos a]
      omega
theorem SF_end {c : Int} {V : VW} {k : Nat} : SF (hF c V k) (wN V k + 1) = As c k V := by
  rw [← As_eq k V]
  have lt := wN_lt (V := V) k
  have key : ∀ d : Nat, wN V k + 1 + d ≤ 2 ^ k → SF (hF c V k) (wN V k + 1 + d) = SF (hF c V k) (wN V k + 1) := fun d => by
    induction d with
    | zero => intro _; rfl
    | succ d ih =>
      intro hd
      show SF (hF c V k) (wN V k + 1 + d) + hF c V k (wN V k + 1 + d) = _
      rw [ih (by omega)]
      have : hF c V k (wN V k + 1 + d) = 0 := if_neg (fun z => by
        have := wN_ge k (wN V k + 1 + d) (by omega) z.1
        omega)
      rw [this]; omega
  have := key (2 ^ k - (wN V k + 1)) (by omega)
  rw [show wN V k + 1 + (2 ^ k - (wN V k + 1)) = 2 ^ k by omega] at this
  exact this.symm
theorem wN_bset {V : VW} : ∀ k : Nat, k ≤ 12 → bset (fun i => decide (V 1 i = 4)) k = (wN V k : Int)
  | 0, _ => rfl
  | k + 1, h => by
    have e : wN V (k + 1) = wN V k + (if V 1 k = 4 then 2 ^ k else 0) := rfl
    by_cases a : V 1 k = 4
    · rw [bset_t (decide_eq_true a), wN_bset k (by omega), ior_shl k (by omega) _ (wN_lt k), e, if_pos a]
      omega
    · rw [bset_f (decide_eq_false a), wN_bset k (by omega), e, if_neg a]
      omega
theorem wy_bd {c : Int} {V : VW} {s : Nat} (c0 : 0 ≤ c) (c1 : c ≤ 10) : ∀ k : Nat, 0 ≤ wy c V s k ∧ wy c V s k ≤ 10 ^ k
  | 0 => by show (0 : Int) ≤ 1 ∧ (1 : Int) ≤ 10 ^ 0; decide
  | k + 1 => by
    obtain ⟨a, b⟩ := wy_bd (V := V) (s := s) c0 c1 k
    have hx : 0 ≤ (if V 1 k = 4 then (if s / 2 ^ k % 2 = 1 then c else 10 - c) else 1) ∧ (if V 1 k = 4 then (if s / 2 ^ k % 2 = 1 then c else 10 - c) else 1) ≤ 10 := by
      split
      · split <;> omega
      · omega
    show 0 ≤ wy c V s k * _ ∧ wy c V s k * _ ≤ 10 ^ (k + 1)
    rw [Int.pow_succ]
    exact ⟨Int.mul_nonneg a hx.1, Int.mul_le_mul b hx.2 hx.1 (Int.le_trans a b)⟩
theorem p10 : ∀ w : Nat, w < 13 → (10 : Int) ^ w ≤ 1000000000000 ∧ 1 ≤ (10 : Int) ^ w := by decide
theorem wy_12 {c : Int} {V : VW} {s k : Nat} (c0 : 0 ≤ c) (c1 : c ≤ 10) (hk : k ≤ 12) : 0 ≤ wy c V s k ∧ wy c V s k ≤ 1000000000000 := by
  have a := wy_bd (V := V) (s := s) c0 c1 k
  have b := (p10 k (by omega)).1
  omega
theorem bN_bd {V : VW} : ∀ k : Nat, 1 ≤ bN V k ∧ bN V k ≤ 10 ^ k
  | 0 => by show (1 : Int) ≤ 1 ∧ (1 : Int) ≤ 10 ^ 0; decide
  | k + 1 => by
    obtain ⟨a, b⟩ := bN_bd (V := V) k
    show 1 ≤ (if V 1 k = 4 then bN V k * 10 else bN V k * 1) ∧ (if V 1 k = 4 then bN V k * 10 else bN V k * 1) ≤ 10 ^ (k + 1)
    rw [Int.pow_succ]
    split <;> omega
theorem bN_12 {V : VW} {k : Nat} (hk : k ≤ 12) : 1 ≤ bN V k ∧ bN V k ≤ 1000000000000 := by
  have a := bN_bd (V := V) k
  have b := (p10 k (by omega)).1
  omega
theorem gw_j {V : VW} {s : Nat} {j : Nat} {p : Int} : ∀ k : Nat, (j ≠ 2 ∨ (k : Int) ≤ p) → gw V s k j p = V j p
  | 0, _ => rfl
  | k + 1, h => by
    have e2 : gw V s (k + 1) = if s / 2 ^ k % 2 = 1 then upW (gw V s k) k else gw V s k := rfl
    rw [e2]
    split
    · rw [upW_1 (by omega)]; exact gw_j k (by omega)
    · exact gw_j k (by omega)
theorem gw_wf {V : VW} {s : Nat} (hV : WFv V) : ∀ k : Nat, (k : Int) ≤ V 0 0 → sbs V s k = true → WFv (gw V s k)
  | 0, _, _ => hV
  | k + 1, h, hs => by
    have hb := (sbs_iff (k + 1)).mp hs
    have a := gw_wf hV k (by omega) ((sbs_iff k).mpr (fun i hi => hb i (by omega)))
    have e2 : gw V s (k + 1) = if s / 2 ^ k % 2 = 1 then upW (gw V s k) k else gw V s k := rfl
    rw [e2]
    split
    · rename_i y
      have k4 := hb k (by omega) y
      have wi := (hV.2.2.2.2.2.2.2.2 (k : Int) (by omega) (by omega)).2.2.2.1 k4
      have e3 : gw V s k 1 k = V 1 k := gw_j k (Or.inl (by decide))
      have e4 : gw V s k 2 k = V 2 k := gw_j k (Or.inr (Int.le_refl _))
      unfold upW upV
      split
      · exact setV2_wf a (fun z => by omega) (fun z => by omega)
      · exact a
    · exact a
