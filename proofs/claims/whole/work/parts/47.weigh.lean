/-! the weight of rest, in tenths -/
def okS (V : VW) : Bool := decide ((settles true (bgn V)).2.2.1 = 0) && (settles true (bgn V)).2.2.2.2
abbrev gr (V : VW) (k : Int) : Prop := V 1 k = 4 ∧ V 2 k < 20
def upV (V : VW) (k : Int) : VW := setV V 2 k (V 2 k + 1)
def Gs (c : Int) : Nat → VW → Int
  | 0, V => if okS V = true then 1 else 0
  | k + 1, V => if gr V k then Gs c k V * (10 - c) + Gs c k (upV V k) * c else Gs c k V
def gB (V : VW) : Nat → Int
  | 0 => 1
  | k + 1 => if gr V k then gB V k * 10 else gB V k
def gn (V : VW) : Nat → Nat
  | 0 => 0
  | k + 1 => if gr V k then gn V k + 1 else gn V k
def gp (V : VW) : Nat → Nat → Int
  | 0 => fun _ => 0
  | k + 1 => if gr V k then (fun j => if j = gn V k then (k : Int) else gp V k j) else gp V k
theorem gn_le {V : VW} : ∀ k : Nat, gn V k ≤ k
  | 0 => Nat.le_refl 0
  | k + 1 => by
    have := gn_le (V := V) k
    show (if gr V k then gn V k + 1 else gn V k) ≤ k + 1
    split <;> omega
theorem gn_cg {V W : VW} : ∀ k : Nat, (∀ j : Nat, j < k → (gr V j ↔ gr W j)) → gn V k = gn W k ∧ gp V k = gp W k
  | 0, _ => ⟨rfl, rfl⟩
  | k + 1, h => by
    obtain ⟨a, b⟩ := gn_cg k (fun j hj => h j (by omega))
    have e := h k (by omega)
    show (if gr V k then gn V k + 1 else gn V k) = (if gr W k then gn W k + 1 else gn W k) ∧ (if gr V k then (fun j => if j = gn V k then (k : Int) else gp V k j) else gp V k) = (if gr W k then (fun j => if j = gn W k then (k : Int) else gp W k j) else gp W k)
    by_cases z : gr V k
    · rw [if_pos z, if_pos (e.1 z), if_pos z, if_pos (e.1 z), a, b]; exact ⟨rfl, rfl⟩
    · rw [if_neg z, if_neg (fun y => z (e.2 y)), if_neg z, if_neg (fun y => z (e.2 y)), a, b]; exact ⟨rfl, rfl⟩
theorem gp_ok {V : VW} : ∀ k : Nat, (∀ j, j < gn V k → 0 ≤ gp V k j ∧ gp V k j < k ∧ gr V (gp V k j)) ∧ ∀ i j, i < j → j < gn V k → gp V k i < gp V k j
  | 0 => ⟨fun j hj => absurd hj (by show ¬ j < 0; omega), fun i j _ hj => absurd hj (by show ¬ j < 0; omega)⟩
  | k + 1 => by
    obtain ⟨a, b⟩ := gp_ok (V := V) k
    by_cases z : gr V k
    · have en : gn V (k + 1) = gn V k + 1 := if_pos z
      have ep : gp V (k + 1) = fun j => if j = gn V k then (k : Int) else gp V k j := if_pos z
      rw [en, ep]
      refine ⟨fun j hj => ?_, fun i j hij hj => ?_⟩
      · by_cases y : j = gn V k
        · simp only [if_pos y]
          exact ⟨by omega, by omega, z⟩
        · simp only [if_neg y]
          obtain ⟨a1, a2, a3⟩ := a j (by omega)
          exact ⟨a1, by omega, a3⟩
      · have hi : i ≠ gn V k := by omega
        simp only [if_neg hi]
        by_cases y : j = gn V k
        · simp only [if_pos y]
          exact (a i (by omega)).2.1
        · simp only [if_neg y]
          exact b i j hij (by omega)
    · have en : gn V (k + 1) = gn V k := if_neg z
      have ep : gp V (k + 1) = gp V k := if_neg z
      rw [en, ep]
      refine ⟨fun j hj => ?_, b⟩
      obtain ⟨a1, a2, a3⟩ := a j hj
      exact ⟨a1, by omega, a3⟩
def wt (c : Int) (ch : Nat) : Nat → Int
  | 0 => 1
  | i + 1 => wt c ch i * (if ch / 2 ^ i % 2 = 1 then c else 10 - c)
def gro (g : Nat → Int) (V : VW) (ch : Nat) : Nat → VW
  | 0 => V
  | i + 1 => setV (gro g V ch i) 2 (g i) (gro g V ch i 2 (g i) + ((ch / 2 ^ i % 2 : Nat) : Int))
def gF (c : Int) (g : Nat → Int) (V : VW) (w ch : Nat) : Int := if okS (gro g V ch w) = true then wt c ch w else 0
theorem wt_cg {c : Int} {ch dh : Nat} : ∀ w : Nat, (∀ i, i < w → ch / 2 ^ i % 2 = dh / 2 ^ i % 2) → wt c ch w = wt c dh w
  | 0, _ => rfl
  | w + 1, h => by
    show wt c ch w * _ = wt c dh w * _
    rw [wt_cg w (fun i hi => h i (by omega)), h w (by omega)]
theorem gro_cg {g f : Nat → Int} {V : VW} {ch dh : Nat} : ∀ w : Nat, (∀ i, i < w → g i = f i ∧ ch / 2 ^ i % 2 = dh / 2 ^ i % 2) → gro g V ch w = gro f V dh w
  | 0, _ => rfl
  | w + 1, h => by
    show setV (gro g V ch w) 2 (g w) _ = setV (gro f V dh w) 2 (f w) _
    rw [gro_cg w (fun i hi => h i (by omega)), (h w (by omega)).1, (h w (by omega)).2]
theorem setV_self {V : VW} {j : Nat} {p : Int} : setV V j p (V j p) = V := by
  funext a k
  unfold setV
  split
  · rename_i z; rw [z.1, z.2]
  · rfl
theorem setV_cm {A : VW} {p q b : Int} : setV (setV A 2 p (A 2 p + 1)) 2 q (setV A 2 p (A 2 p + 1) 2 q + b) = setV (setV A 2 q (A 2 q + b)) 2 p (setV A 2 q (A 2 q + b) 2 p + 1) := by
  by_cases z : p = q
  · subst z
    funext a k
    simp only [setV, and_self, if_true]
    split
    · omega
    · rfl
  · funext a k
    simp only [setV]
    by_cases y : a = 2
    · subst y
      have z2 : ¬ q = p := fun x => z x.symm
      by_cases x : k = q
      · subst x
        simp only [z2, and_false, and_self, if_true, if_false]
      · by_cases w : k = p
        · subst w
          simp only [z, and_false, and_self, if_true, if_false]
        · simp only [x, w, and_false, if_false]
    · simp only [y, false_and, if_false]
theorem gro_up {g : Nat → Int} {V : VW} {ch : Nat} {p : Int} : ∀ w : Nat, gro g (upV V p) ch w = upV (gro g V ch w) p
  | 0 => rfl
  | w + 1 => by
    show setV (gro g (upV V p) ch w) 2 (g w) (gro g (upV V p) ch w 2 (g w) + _) = _
    rw [gro_up w]
    exact setV_cm
theorem gr_up {V : VW} {k : Int} {j : Int} (h : j ≠ k) : gr (upV V k) j ↔ gr V j := by
  unfold gr upV setV
  simp only [h, and_false, if_false]
theorem T_eq {c : Int} : ∀ (k : Nat) (V : VW), SF (gF c (gp V k) V (gn V k)) (2 ^ gn V k) = Gs c k V
  | 0, V => by
    show 0 + (if okS V = true then 1 else 0) = if okS V = true then (1 : Int) else 0
    omega
  | k + 1, V => by
    by_cases z : gr V k
    · have en : gn V (k + 1) = gn V k + 1 := if_pos z
      have ep : gp V (k + 1) = fun j => if j = gn V k then (k : Int) else gp V k j := if_pos z
      have eg : Gs c (k + 1) V = Gs c k V * (10 - c) + Gs c k (upV V k) * c := if_pos z
      obtain ⟨q1, q2⟩ := gn_cg (V := upV V k) (W := V) k (fun j hj => gr_up (by omega))
      have t1 := T_eq (c := c) k V
      have t2 := T_eq (c := c) k (upV V k)
      rw [q1, q2] at t2
      rw [en, ep, eg, ← t1, ← t2, ← SF_mul, ← SF_mul, Nat.pow_succ, Nat.mul_two, SF_add]
      generalize gn V k = w
      generalize gp V k = g
      have hg : ∀ i, i < w → (fun j => if j = w then (k : Int) else g j) i = g i := fun i hi => by simp only [if_neg (show ¬ i = w by omega)]
      congr 1
      · refine SF_congr _ (fun ch hc => ?_)
        unfold gF
        have e1 : gro (fun j => if j = w then (k : Int) else g j) V ch (w + 1) = gro g V ch w := by
          show setV (gro _ V ch w) 2 _ (gro _ V ch w 2 _ + ((ch / 2 ^ w % 2 : Nat) : Int)) = _
          rw [bit_low hc, gro_cg (f := g) (dh := ch) w (fun i hi => ⟨hg i hi, rfl⟩)]
          simp only [Int.natCast_zero, Int.add_zero]
          exact setV_self
        have e2 : wt c ch (w + 1) = wt c ch w * (10 - c) := by
          show wt c ch w * (if ch / 2 ^ w % 2 = 1 then c else 10 - c) = _
          rw [bit_low hc, if_neg (by decide)]
        rw [e1, e2]
        split
        · rfl
        · rw [Int.zero_mul]
      · refine SF_congr _ (fun ch hc => ?_)
        show gF c _ V (w + 1) (2 ^ w + ch) = _
        unfold gF
        have e1 : gro (fun j => if j = w then (k : Int) else g j) V (2 ^ w + ch) (w + 1) = gro g (upV V k) ch w := by
          rw [gro_up]
          show setV (gro _ V (2 ^ w + ch) w) 2 _ (gro _ V (2 ^ w + ch) w 2 _ + (((2 ^ w + ch) / 2 ^ w % 2 : Nat) : Int)) = _
          rw [bit_top hc, gro_cg (f := g) (dh := ch) w (fun i hi => ⟨hg i hi, bit_hi hi⟩)]
          simp only [if_true]
          rfl
        have e2 : wt c (2 ^ w + ch) (w + 1) = wt c ch w * c := by
          show wt c (2 ^ w + ch) w * (if (2 ^ w + ch) / 2 ^ w % 2 = 1 then c else 10 - c) = _
          rw [bit_top hc, if_pos rfl, wt_cg (dh := ch) w (fun i hi => bit_hi hi)]
        rw [e1, e2]
        split
        · rfl
        · rw [Int.zero_mul]
    · have en : gn V (k + 1) = gn V k := if_neg z
      have ep : gp V (k + 1) = gp V k := if_neg z
      have eg : Gs c (k + 1) V = Gs c k V := if_neg z
      rw [en, ep, eg]
      exact T_eq k V
theorem wt_bd {c : Int} {ch : Nat} (c0 : 0 ≤ c) (c1 : c ≤ 10) : ∀ w : Nat, 0 ≤ wt c ch w ∧ wt c ch w ≤ 10 ^ w
  | 0 => by show (0 : Int) ≤ 1 ∧ (1 : Int) ≤ 10 ^ 0; decide
  | w + 1 => by
    obtain ⟨a, b⟩ := wt_bd (ch := ch) c0 c1 w
    show 0 ≤ wt c ch w * (if ch / 2 ^ w % 2 = 1 then c else 10 - c) ∧ wt c ch w * (if ch / 2 ^ w % 2 = 1 then c else 10 - c) ≤ 10 ^ (w + 1)
    rw [Int.pow_succ]
    have hx : 0 ≤ (if ch / 2 ^ w % 2 = 1 then c else 10 - c) ∧ (if ch / 2 ^ w % 2 = 1 then c else 10 - c) ≤ 10 := by split <;> omega
    exact ⟨Int.mul_nonneg a hx.1, Int.mul_le_mul b hx.2 hx.1 (Int.le_trans a b)⟩
theorem wt_b12 {c : Int} {ch w : Nat} (c0 : 0 ≤ c) (c1 : c ≤ 10) (hw : w ≤ 12) : 0 ≤ wt c ch w ∧ wt c ch w ≤ 1000000000000 := by
  obtain ⟨a, b⟩ := wt_bd (ch := ch) c0 c1 w
  refine ⟨a, Int.le_trans b ?_⟩
  have : ∀ w : Nat, w < 13 → (10 : Int) ^ w ≤ 1000000000000 := by decide
  exact this w (by omega)
theorem SF_b {F : Nat → Int} {B : Int} : ∀ n : Nat, (∀ i, i < n → 0 ≤ F i ∧ F i ≤ B) → 0 ≤ SF F n ∧ SF F n ≤ n * B
  | 0, _ => by show (0 : Int) ≤ 0 ∧ (0 : Int) ≤ ((0 : Nat) : Int) * B; rw [Int.natCast_zero, Int.zero_mul]; omega
  | n + 1, h => by
    obtain ⟨a, b⟩ := SF_b n (fun i hi => h i (by omega))
    obtain ⟨d, e⟩ := h n (by omega)
    show 0 ≤ SF F n + F n ∧ SF F n + F n ≤ ((n + 1 : Nat) : Int) * B
    rw [Int.natCast_add, Int.add_mul]
    omega
theorem gF_b {c : Int} {g : Nat → Int} {V : VW} {w ch : Nat} (c0 : 0 ≤ c) (c1 : c ≤ 10) (hw : w ≤ 12) : 0 ≤ gF c g V w ch ∧ gF c g V w ch ≤ 1000000000000 := by
  have := wt_b12 (ch := ch) c0 c1 hw
  unfold gF
  split <;> omega
theorem SF_s {F : Nat → Int} {n : Nat} (hn : n ≤ 4096) (h : ∀ i, 0 ≤ F i ∧ F i ≤ 1000000000000) : 0 ≤ SF F n ∧ SF F n ≤ 4096000000000000 := by
  have := SF_b (F := F) n (fun i _ => h i)
  omega
theorem gB_b {V : VW} : ∀ k : Nat, 1 ≤ gB V k ∧ gB V k ≤ 10 ^ k
  | 0 => by show (1 : Int) ≤ 1 ∧ (1 : Int) ≤ 10 ^ 0; decide
  | k + 1 => by
    obtain ⟨a, b⟩ := gB_b (V := V) k
    show 1 ≤ (if gr V k then gB V k * 10 else gB V k) ∧ (if gr V k then gB V k * 10 else gB V k) ≤ 10 ^ (k + 1)
    rw [Int.pow_succ]
    split <;> omega
theorem gB_12 {V : VW} {k : Nat} (hk : k ≤ 12) : 1 ≤ gB V k ∧ gB V k ≤ 1000000000000 := by
  obtain ⟨a, b⟩ := gB_b (V := V) k
  have : ∀ w : Nat, w < 13 → (10 : Int) ^ w ≤ 1000000000000 := by decide
  exact ⟨a, Int.le_trans b (this k (by omega))⟩
theorem gB_pow {V : VW} : ∀ k : Nat, gB V k = 10 ^ gn V k
  | 0 => rfl
  | k + 1 => by
    show (if gr V k then gB V k * 10 else gB V k) = 10 ^ (if gr V k then gn V k + 1 else gn V k)
    split
    · rw [Int.pow_succ, gB_pow k]
    · exact gB_pow k
theorem Gs_0 {c : Int} (c0 : 0 ≤ c) (c1 : c ≤ 10) : ∀ (k : Nat) (V : VW), 0 ≤ Gs c k V
  | 0, V => by show 0 ≤ (if okS V = true then (1 : Int) else 0); split <;> omega
  | k + 1, V => by
    show 0 ≤ (if gr V k then Gs c k V * (10 - c) + Gs c k (upV V k) * c else Gs c k V)
    have a := Gs_0 c0 c1 k V
    have b := Gs_0 c0 c1 k (upV V k)
    split
    · have := Int.mul_nonneg a (show 0 ≤ 10 - c by omega)
      have := Int.mul_nonneg b c0
      omega
    · exact a
theorem gro_ne {g : Nat → Int} {V : VW} {ch : Nat} {p : Int} : ∀ w : Nat, (∀ i, i < w → g i ≠ p) → gro g V ch w 2 p = V 2 p
  | 0, _ => rfl
  | w + 1, h => by
    show setV (gro g V ch w) 2 (g w) _ 2 p = V 2 p
    unfold setV
    rw [if_neg (fun x => h w (by omega) x.2.symm)]
    exact gro_ne w (fun i hi => h i (by omega))
theorem gro_j {g : Nat → Int} {V : VW} {ch j : Nat} {p : Int} (hj : j ≠ 2) : ∀ w : Nat, gro g V ch w j p = V j p
  | 0 => rfl
  | w + 1 => by
    show setV (gro g V ch w) 2 (g w) _ j p = V j p
    unfold setV
    rw [if_neg (fun x => hj x.1)]
    exact gro_j hj w
theorem gro_wf {V : VW} {ch k : Nat} (hV : WFv V) (hk : (k : Int) ≤ V 0 0) : ∀ w : Nat, w ≤ gn V k → WFv (gro (gp V k) V ch w)
  | 0, _ => hV
  | w + 1, h => by
    have a := gro_wf (ch := ch) hV hk w (by omega)
    obtain ⟨p1, p2⟩ := gp_ok (V := V) k
    obtain ⟨b1, b2, b3⟩ := p1 w (by omega)
    have e : gro (gp V k) V ch w 2 (gp V k w) = V 2 (gp V k w) := gro_ne w (fun i hi => by have := p2 i w hi (by omega); omega)
    show WFv (setV (gro (gp V k) V ch w) 2 (gp V k w) (gro (gp V k) V ch w 2 (gp V k w) + ((ch / 2 ^ w % 2 : Nat) : Int)))
    have i4 := b3.1
    have i5 := b3.2
    refine setV2_wf a (fun z => ?_) (fun z => ?_)
    · rw [gro_j (by omega)] at z; omega
    · rw [e]
      have i6 := ((hV.2.2.2.2.2.2.2.2 _ b1 (by omega)).2.2.2.1 i4).1
      omega
