/-! how a tape is read: the place and the fault; b are the bytes, l how many -/
theorem TT_q {e q n L b : Nat} : ((TT e q n L).1, (TT e q n L).2.1, am_upR (TT e q n L).2.2 14 0 (some b)) = TT e b n L := by
  show (n, sh_a n L, am_upR (rf_a e q) 14 0 (some b)) = (n, sh_a n L, rf_a e b)
  congr 2
  funext a k
  unfold am_upR
  by_cases ha : a = 14
  · subst ha
    by_cases hk : k = 0
    · subst hk
      rw [if_pos ⟨rfl, rfl⟩]; rfl
    · rw [if_neg (by omega)]
      simp [rf_a, hk]
  · rw [if_neg (by omega)]
    unfold rf_a
    simp only [ha, if_false]
def sgS (b : Int → Int) (l s : Int) (x : Int × Int) : Int × Int := if x.2 ≠ 0 then x else if x.1 < l ∧ b x.1 = s then (x.1 + 1, 0) else (x.1, 1)
def dgt (b : Int → Int) (l p : Int) : Prop := p < l ∧ 48 ≤ b p ∧ b p ≤ 57
def dgtD (b : Int → Int) (l p : Int) : Bool := decide (p < l ∧ 48 ≤ b p ∧ b p ≤ 57)
def nd3 (b : Int → Int) (l p : Int) : Nat := if dgtD b l p = true then (if dgtD b l (p + 1) = true then (if dgtD b l (p + 2) = true then 3 else 2) else 1) else 0
def pvl (b : Int → Int) (p : Int) : Nat → Int
  | 0 => 0
  | k + 1 => pvl b p k * 10 + b (p + k) - 48
def nmV (b : Int → Int) (l : Int) (x : Int × Int) : Int := if x.2 ≠ 0 then 0 else pvl b x.1 (nd3 b l x.1)
def nmS (b : Int → Int) (l lo hi : Int) (x : Int × Int) : Int × Int := if x.2 ≠ 0 then x else if nd3 b l x.1 = 0 ∨ nd3 b l x.1 = 3 then (x.1, 1) else if nmV b l x < lo ∨ hi < nmV b l x then (x.1, 2) else (x.1 + nd3 b l x.1, 0)
theorem nd3_is {b : Int → Int} {l p : Int} {k : Nat} (hk : k ≤ 3) (h : ∀ j : Nat, j < k → dgtD b l (p + j) = true) (h2 : k = 3 ∨ dgtD b l (p + k) = false) : nd3 b l p = k := by
  unfold nd3
  have g0 : p + (0 : Nat) = p := by omega
  have hc : k = 0 ∨ k = 1 ∨ k = 2 ∨ k = 3 := by omega
  rcases hc with rfl | rfl | rfl | rfl
  · have := h2.resolve_left (by decide)
    rw [g0] at this
    rw [if_neg (by rw [this]; decide)]
  · have a0 := h 0 (by decide)
    rw [g0] at a0
    have := h2.resolve_left (by decide)
    rw [if_pos a0, if_neg (by intro z; rw [show p + ((1 : Nat) : Int) = p + 1 from rfl, z] at this; exact absurd this (by decide))]
  · have a0 := h 0 (by decide)
    rw [g0] at a0
    have a1 : dgtD b l (p + 1) = true := h 1 (by decide)
    have := h2.resolve_left (by decide)
    rw [if_pos a0, if_pos a1, if_neg (by intro z; rw [show p + ((2 : Nat) : Int) = p + 2 from rfl, z] at this; exact absurd this (by decide))]
  · have a0 := h 0 (by decide)
    rw [g0] at a0
    have a1 : dgtD b l (p + 1) = true := h 1 (by decide)
    have a2 : dgtD b l (p + 2) = true := h 2 (by decide)
    rw [if_pos a0, if_pos a1, if_pos a2]
theorem nd3_le {b : Int → Int} {l p : Int} (hp : p ≤ l) : p + nd3 b l p ≤ l ∧ nd3 b l p ≤ 3 := by
  unfold nd3 dgtD
  split
  · rename_i a
    have a' := of_decide_eq_true a
    split
    · rename_i c
      have c' := of_decide_eq_true c
      split
      · rename_i d
        have d' := of_decide_eq_true d
        omega
      · omega
    · omega
  · omega
def kdS (x : Int) : Int := if x = 116 then 4 else if x = 107 then 5 else if x = 114 then 1 else if x = 109 then 2 else if x = 102 then 3 else -1000000
/-- the number behind a kind -/
def noS (b : Int → Int) (l kd : Int) (x : Int × Int) : Int × Int := if kd = 5 then x else if kd = 4 then nmS b l 1 20 x else nmS b l 0 11 x
def noV (b : Int → Int) (l kd : Int) (x : Int × Int) : Int := if kd = 5 then 0 else nmV b l x
abbrev PS : Type := (Int × Int) × VW
def itS (b : Int → Int) (l : Int) (s : PS) : PS :=
  if kdS (if s.1.1 < l then b s.1.1 else 32) = -1000000 then ((s.1.1, 1), s.2)
  else if 12 ≤ s.2 0 0 then ((s.1.1, 3), s.2)
  else (sgS b l 59 (noS b l (kdS (if s.1.1 < l then b s.1.1 else 32)) (s.1.1 + 1, 0)), setV (setV (setV s.2 1 (s.2 0 0) (kdS (if s.1.1 < l then b s.1.1 else 32))) 2 (s.2 0 0) (noV b l (kdS (if s.1.1 < l then b s.1.1 else 32)) (s.1.1 + 1, 0))) 0 0 (s.2 0 0 + 1))
def itN (b : Int → Int) (l : Int) : Nat → PS → PS
  | 0, s => s
  | n + 1, s => if s.1.2 = 0 ∧ (s.1.1 < l ∨ s.2 0 0 = 0) then itN b l n (itS b l s) else s
def lw1 (b : Int → Int) (l : Int) : Int × Int := sgS b l 119 (0, 0)
def lw2 (b : Int → Int) (l : Int) : Int × Int := sgS b l 44 (nmS b l 4 20 (lw1 b l))
def lw3 (b : Int → Int) (l : Int) : Int × Int := sgS b l 44 (nmS b l 1 5 (lw2 b l))
def lw4 (b : Int → Int) (l : Int) : Int × Int := sgS b l 59 (nmS b l 1 87 (lw3 b l))
def lwV (b : Int → Int) (l : Int) : VW := fun j k => if j = 0 then (if k = 1 then nmV b l (lw1 b l) else if k = 2 then nmV b l (lw2 b l) else if k = 3 then nmV b l (lw3 b l) else 0) else 0
/-- are all references there -/
def lkS (V : VW) : Nat → Bool
  | 0 => true
  | n + 1 => lkS V n && decide (mbn (V 0 0) (V 1 n) (V 2 n))
def psS (b : Int → Int) (l : Int) : PS := itN b l l.toNat (lw4 b l, lwV b l)
def psF (b : Int → Int) (l : Int) : Int := if (psS b l).1.2 ≠ 0 then (psS b l).1.2 else if lkS (psS b l).2 ((psS b l).2 0 0).toNat = true then 0 else 4
def sp_sheet (σ : ST) : Int × ST :=
  if psF (s_tap σ).2 (s_tap σ).1 = 0 then ((psS (s_tap σ).2 (s_tap σ).1).2 0 0, (σ.1, σ.2.1, σ.2.2.1, σ.2.2.2.1, (0, (s_tap σ).2), s_flt σ, bgn (psS (s_tap σ).2 (s_tap σ).1).2, (0, (s_pas σ).2), σ.2.2.2.2.2.2.2.2))
  else (-1000100 - (psS (s_tap σ).2 (s_tap σ).1).1.1, (σ.1, σ.2.1, σ.2.2.1, σ.2.2.2.1, (0, (s_tap σ).2), psF (s_tap σ).2 (s_tap σ).1, σ.2.2.2.2.2.2))
theorem sgS_b {b : Int → Int} {l s : Int} {x : Int × Int} (h0 : 0 ≤ x.1) (h1 : x.1 ≤ l) : 0 ≤ (sgS b l s x).1 ∧ (sgS b l s x).1 ≤ l := by
  unfold sgS
  split
  · exact ⟨h0, h1⟩
  · split
    · rename_i z
      show 0 ≤ x.1 + 1 ∧ x.1 + 1 ≤ l
      omega
    · exact ⟨h0, h1⟩
theorem nmS_b {b : Int → Int} {l lo hi : Int} {x : Int × Int} (h0 : 0 ≤ x.1) (h1 : x.1 ≤ l) : 0 ≤ (nmS b l lo hi x).1 ∧ (nmS b l lo hi x).1 ≤ l := by
  have := nd3_le (b := b) h1
  unfold nmS
  split
  · exact ⟨h0, h1⟩
  · split
    · exact ⟨h0, h1⟩
    · split
      · exact ⟨h0, h1⟩
      · show 0 ≤ x.1 + _ ∧ x.1 + _ ≤ l
        omega
theorem noS_b {b : Int → Int} {l kd : Int} {x : Int × Int} (h0 : 0 ≤ x.1) (h1 : x.1 ≤ l) : 0 ≤ (noS b l kd x).1 ∧ (noS b l kd x).1 ≤ l := by
  unfold noS
  split
  · exact ⟨h0, h1⟩
  · split <;> exact nmS_b h0 h1
theorem lw_b {b : Int → Int} {l : Int} (hl : 0 ≤ l) : (0 ≤ (lw1 b l).1 ∧ (lw1 b l).1 ≤ l) ∧ (0 ≤ (lw2 b l).1 ∧ (lw2 b l).1 ≤ l) ∧ (0 ≤ (lw3 b l).1 ∧ (lw3 b l).1 ≤ l) ∧ (0 ≤ (lw4 b l).1 ∧ (lw4 b l).1 ≤ l) := by
  have a1 : 0 ≤ (lw1 b l).1 ∧ (lw1 b l).1 ≤ l := sgS_b (x := (0, 0)) (Int.le_refl 0) hl
  have b1 := nmS_b (b := b) (lo := 4) (hi := 20) a1.1 a1.2
  have a2 : 0 ≤ (lw2 b l).1 ∧ (lw2 b l).1 ≤ l := sgS_b b1.1 b1.2
  have b2 := nmS_b (b := b) (lo := 1) (hi := 5) a2.1 a2.2
  have a3 : 0 ≤ (lw3 b l).1 ∧ (lw3 b l).1 ≤ l := sgS_b b2.1 b2.2
  have b3 := nmS_b (b := b) (lo := 1) (hi := 87) a3.1 a3.2
  exact ⟨a1, a2, a3, sgS_b b3.1 b3.2⟩
