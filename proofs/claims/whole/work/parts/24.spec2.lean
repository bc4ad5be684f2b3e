/-! TO SETTLE -/
/-- the latest k below n whose guesses are f; or -1 -/
def find (f : Int → Int) (H : Nat → Int → Int) (cnt : Nat) : Nat → Int
  | 0 => -1
  | n + 1 => if eqg f (H n) cnt = true then (n : Int) else find f H cnt n
theorem find_bd {f : Int → Int} {H : Nat → Int → Int} {cnt : Nat} : ∀ n : Nat, -1 ≤ find f H cnt n ∧ find f H cnt n < n
  | 0 => by simp [find]
  | n + 1 => by
    have := find_bd (f := f) (H := H) (cnt := cnt) n
    unfold find
    split <;> omega
theorem find_eq {f : Int → Int} {H : Nat → Int → Int} {cnt : Nat} : ∀ n : Nat, find f H cnt n ≠ -1 → eqg f (H (find f H cnt n).toNat) cnt = true
  | 0, h => absurd rfl h
  | n + 1, h => by
    unfold find at h ⊢
    by_cases e : eqg f (H n) cnt = true
    · rw [if_pos e]; exact e
    · rw [if_neg e] at h ⊢; exact find_eq n h
theorem eqg_congr {f g f' g' : Int → Int} {n : Nat} (h1 : ∀ i : Nat, i < n → f i = f' i) (h2 : ∀ i : Nat, i < n → g i = g' i) : eqg f g n = eqg f' g' n := by
  rw [Bool.eq_iff_iff, eqg_iff, eqg_iff]
  constructor
  · intro h i hi
    rw [← h1 i hi, ← h2 i hi]; exact h i hi
  · intro h i hi
    rw [h1 i hi, h2 i hi]; exact h i hi
theorem eqg_no {f g : Int → Int} {i n : Nat} (hi : i < n) (h : f i ≠ g i) : eqg f g n = false := by
  rw [← Bool.not_eq_true, eqg_iff]
  exact fun z => h (z i hi)
theorem find_congr {f f' : Int → Int} {H H' : Nat → Int → Int} {cnt : Nat} : ∀ n : Nat, (∀ i : Nat, i < cnt → f i = f' i) → (∀ k : Nat, k < n → ∀ i : Nat, i < cnt → H k i = H' k i) → find f H cnt n = find f' H' cnt n
  | 0, _, _ => rfl
  | n + 1, h1, h2 => by
    unfold find
    rw [eqg_congr h1 (h2 n (by omega)), find_congr n h1 (fun k hk => h2 k (by omega))]
/-- whether f is the same at 0 .. m - 1; the greatest of these -/
def alw (f : Nat → Int) : Nat → Bool
  | 0 => true
  | m + 1 => alw f m && decide (f m = f 0)
def mxw (f : Nat → Int) : Nat → Int
  | 0 => 0
  | m + 1 => if mxw f m < f m then f m else mxw f m
theorem alw_iff {f : Nat → Int} : ∀ {m : Nat}, alw f m = true ↔ ∀ k : Nat, k < m → f k = f 0
  | 0 => by simp [alw]
  | m + 1 => by
    simp only [alw, Bool.and_eq_true, decide_eq_true_eq, alw_iff (m := m)]
    constructor
    · rintro ⟨h1, h2⟩ k hk
      by_cases e : k = m
      · rw [e]; exact h2
      · exact h1 k (by omega)
    · intro h
      exact ⟨fun k hk => h k (by omega), h m (by omega)⟩
theorem mxw_bd {f : Nat → Int} {B : Int} (hB : 0 ≤ B) : ∀ {m : Nat}, (∀ k : Nat, k < m → f k ≤ B) → 0 ≤ mxw f m ∧ mxw f m ≤ B
  | 0, _ => by simp [mxw]; exact hB
  | m + 1, h => by
    have a := mxw_bd hB (m := m) (fun k hk => h k (by omega))
    have b := h m (by omega)
    unfold mxw
    split <;> omega
theorem alw_congr {f g : Nat → Int} {m : Nat} (h : ∀ k : Nat, k < m → f k = g k) : alw f m = alw g m := by
  rw [Bool.eq_iff_iff, alw_iff, alw_iff]
  constructor
  · intro z k hk
    rw [← h k hk, z k hk, h 0 (by omega)]
  · intro z k hk
    rw [h k hk, z k hk, h 0 (by omega)]
theorem mxw_congr {f g : Nat → Int} : ∀ {m : Nat}, (∀ k : Nat, k < m → f k = g k) → mxw f m = mxw g m
  | 0, _ => rfl
  | m + 1, h => by
    unfold mxw
    rw [mxw_congr (m := m) (fun k hk => h k (by omega)), h m (by omega)]
/-- frozen at the widest, by the guesses s .. kp - 1 -/
def frw (V : VW) (H : Nat → Int → Int) (s kp : Nat) (i : Int) : Int := if alw (fun k => wdg V (H (s + k)) i) (kp - s) = true then V 4 i else mxw (fun k => wdg V (H (s + k)) i) (kp - s)
def frz (V : VW) (H : Nat → Int → Int) (s kp : Nat) : VW := fun j k => if j = 4 ∧ 0 ≤ k ∧ k < V 0 0 then frw V H s kp k else V j k
def hup (H : Nat → Int → Int) (kp : Nat) (g : Int → Int) : Nat → Int → Int := fun k => if k = kp then g else H k
abbrev SR5 : Type := VW × Int × Int × Int × Bool
def strun (stop : Bool) : Nat → VW → (Nat → Int → Int) → Nat → Int → Int → Int → SR5
  | 0, V, _, _, r, f, g => (V, r, f, g, stl V)
  | n + 1, V, H, kp, r, f, g =>
    if stl V = true then (V, r, f, g, true)
    else if find (rnd V 3) (hup H kp (V 3)) (V 0 0).toNat kp = -1 then strun stop n (rnd V) (hup H kp (V 3)) (kp + 1) (r + 1) f g
    else if stop = true then (frz (rnd V) (hup H kp (V 3)) (find (rnd V 3) (hup H kp (V 3)) (V 0 0).toNat kp).toNat (kp + 1), r + 1, f + 1, (if f + 1 = 1 then (kp : Int) + 1 - find (rnd V 3) (hup H kp (V 3)) (V 0 0).toNat kp else g), false)
    else strun stop n (frz (rnd V) (hup H kp (V 3)) (find (rnd V 3) (hup H kp (V 3)) (V 0 0).toNat kp).toNat (kp + 1)) (fun _ _ => 0) 0 (r + 1) (f + 1) (if f + 1 = 1 then (kp : Int) + 1 - find (rnd V 3) (hup H kp (V 3)) (V 0 0).toNat kp else g)
def settles (stop : Bool) (V : VW) : SR5 := strun stop 200 V (fun _ _ => 0) 0 0 0 0
theorem wdg_le {V : VW} {g : Int → Int} {i : Int} (hV : WFv V) (hg : ∀ k, 0 ≤ k → k < V 0 0 → 1 ≤ g k ∧ g k ≤ 98) (h0 : 0 ≤ i) (h1 : i < V 0 0) : 0 ≤ wdg V g i ∧ wdg V g i ≤ 20 := wdg_bd hV (fun k k0 k1 => by have := hg k k0 k1; omega) h0 h1
theorem frz_wf {V : VW} {H : Nat → Int → Int} {s kp : Nat} (hV : WFv V) (hH : ∀ k : Nat, k < kp → ∀ i, 0 ≤ i → i < V 0 0 → 1 ≤ H k i ∧ H k i ≤ 98) : WFv (frz V H s kp) := by
  obtain ⟨c1, c2, c3, c4, c5, c6, c7, c8, hi⟩ := id hV
  refine ⟨c1, c2, c3, c4, c5, c6, c7, c8, fun i h0 h1 => ?_⟩
  obtain ⟨k1, k2, k3, k4, k5, k6, k7, k8⟩ := hi i h0 h1
  have e : frz V H s kp 4 i = frw V H s kp i := if_pos ⟨rfl, h0, h1⟩
  have hb : 0 ≤ frw V H s kp i ∧ frw V H s kp i ≤ 20 := by
    unfold frw
    split
    · exact ⟨k7, k8⟩
    · exact mxw_bd (by omega) (fun k hk => (wdg_le hV (hH (s + k) (by omega)) h0 h1).2)
  refine ⟨k1, k2, k3, k4, k5, k6, ?_, ?_⟩ <;> rw [e] <;> omega
theorem hup_at {H : Nat → Int → Int} {kp : Nat} {g : Int → Int} : hup H kp g kp = g := if_pos rfl
theorem hup_ne {H : Nat → Int → Int} {kp k : Nat} {g : Int → Int} (h : k ≠ kp) : hup H kp g k = H k := if_neg h
/-! the program's least and greatest -/
def mnf (f : Nat → Int) (w : Int) : Nat → Int
  | 0 => w
  | m + 1 => if f m < mnf f w m then f m else mnf f w m
def mxf (f : Nat → Int) (w : Int) : Nat → Int
  | 0 => w
  | m + 1 => if mxf f w m < f m then f m else mxf f w m
theorem mf_bd {f : Nat → Int} {w : Int} : ∀ m : Nat, mnf f w m ≤ w ∧ w ≤ mxf f w m ∧ (∀ k : Nat, k < m → mnf f w m ≤ f k ∧ f k ≤ mxf f w m) ∧ (mxf f w m = w ∨ ∃ k : Nat, k < m ∧ mxf f w m = f k) ∧ (mnf f w m = w ∨ ∃ k : Nat, k < m ∧ mnf f w m = f k)
  | 0 => by refine ⟨Int.le_refl _, Int.le_refl _, fun k hk => absurd hk (by omega), Or.inl rfl, Or.inl rfl⟩
  | m + 1 => by
    obtain ⟨a, b, c, d, e⟩ := mf_bd (f := f) (w := w) m
    have en : mnf f w (m + 1) = if f m < mnf f w m then f m else mnf f w m := rfl
    have ex : mxf f w (m + 1) = if mxf f w m < f m then f m else mxf f w m := rfl
    refine ⟨?_, ?_, fun k hk => ?_, ?_, ?_⟩
    · rw [en]; split <;> omega
    · rw [ex]; split <;> omega
    · rw [en, ex]
      by_cases e : k = m
      · subst e
        constructor
        · split <;> omega
        · split <;> omega
      · have := c k (by omega)
        constructor
        · split <;> omega
        · split <;> omega
    · rw [ex]
      split
      · exact Or.inr ⟨m, by omega, rfl⟩
      · rcases d with d | ⟨k, hk, d⟩
        · exact Or.inl d
        · exact Or.inr ⟨k, by omega, d⟩
    · rw [en]
      split
      · exact Or.inr ⟨m, by omega, rfl⟩
      · rcases e with d | ⟨k, hk, d⟩
        · exact Or.inl d
        · exact Or.inr ⟨k, by omega, d⟩
theorem mxw_at {f : Nat → Int} : ∀ m : Nat, (∀ k : Nat, k < m → f k ≤ mxw f m) ∧ (mxw f m = 0 ∨ ∃ k : Nat, k < m ∧ mxw f m = f k) ∧ 0 ≤ mxw f m
  | 0 => ⟨fun k hk => absurd hk (by omega), Or.inl rfl, Int.le_refl _⟩
  | m + 1 => by
    obtain ⟨a, b, c⟩ := mxw_at (f := f) m
    have ex : mxw f (m + 1) = if mxw f m < f m then f m else mxw f m := rfl
    refine ⟨fun k hk => ?_, ?_, ?_⟩
    · rw [ex]
      by_cases e : k = m
      · subst e; split <;> omega
      · have := a k (by omega); split <;> omega
    · rw [ex]
      split
      · exact Or.inr ⟨m, by omega, rfl⟩
      · rcases b with d | ⟨k, hk, d⟩
        · exact Or.inl d
        · exact Or.inr ⟨k, by omega, d⟩
    · rw [ex]; split <;> omega
theorem mf_all {f : Nat → Int} {m : Nat} (hm : 0 < m) (hp : ∀ k : Nat, k < m → 0 ≤ f k) : (mnf f (f 0) m = mxf f (f 0) m ↔ alw f m = true) ∧ mxf f (f 0) m = mxw f m := by
  obtain ⟨a, b, c, d, e⟩ := mf_bd (f := f) (w := f 0) m
  obtain ⟨a2, b2, c2⟩ := mxw_at (f := f) m
  have f0 := a2 0 hm
  have p0 := hp 0 hm
  refine ⟨?_, ?_⟩
  · rw [alw_iff]
    constructor
    · intro h k hk
      have := c k hk
      omega
    · intro h
      rcases d with d | ⟨k, hk, d⟩ <;> rcases e with e | ⟨k2, hk2, e⟩
      · omega
      · have := h k2 hk2; omega
      · have := h k hk; omega
      · have := h k hk; have := h k2 hk2; omega
  · rcases d with d | ⟨k, hk, d⟩
    · rcases b2 with b2 | ⟨k2, hk2, b2⟩
      · omega
      · have := c k2 hk2; omega
    · have := a2 k hk
      rcases b2 with b2 | ⟨k2, hk2, b2⟩
      · have := hp k hk; omega
      · have := c k2 hk2; omega
