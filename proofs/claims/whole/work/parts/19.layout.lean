/-! where the cells lie: the program's 0 .. 372, the reference's 373 .. 388, texts behind them -/
def sh_c (a : Nat) : Nat × Nat :=
  if a < 32 then
    if a < 16 then
      if a < 4 then (if a = 0 then (9, 13) else if a = 1 then (6, 3) else (20, 8))
      else if a < 13 then (if a = 4 then (24, 8) else (20, 40))
      else if a = 13 then (20, 80) else if a = 14 then (5, 4) else (20, 0)
    else if a = 16 then (8, 9) else if a = 21 then (8, 9) else if a = 26 then (7, 7) else if a = 27 then (3, 3) else if a = 31 then (24, 200) else (20, 12)
  else if a < 232 then (20, 12)
  else if a < 240 then (if a = 232 then (2, 9) else if a = 233 then (3, 3) else if a = 238 then (4, 3) else if a = 239 then (23, 24) else (20, 12))
  else if a < 360 then (if (a - 240) % 5 = 0 then (8, 9) else (20, 12))
  else if a = 360 then (23, 2) else if a = 361 then (8, 9) else if a = 366 then (8, 9) else if a = 371 then (1, 3) else if a = 372 then (20, 16) else (20, 12)
def sh_m (a : Nat) : Nat × Nat :=
  if a < 380 then (if a = 373 then (10, 28) else if a = 376 then (20, 320) else if a = 377 then (20, 40) else if a = 378 then (20, 80) else if a = 379 then (20, 53) else (20, 8))
  else if a < 382 then (20, 53) else if a = 382 then (20, 1272) else if a = 383 then (20, 106) else if a = 384 then (22, 2) else if a < 387 then (20, 36) else if a = 387 then (20, 2412) else (20, 16)
def sh_a (n L : Nat) (a : Nat) : Nat × Nat :=
  if a < 373 then sh_c a else if a < 389 then sh_m a else if a < 1000000 then (if a < n then (if a % 2 = 1 then (0, 4) else (21, 16)) else (99, 0))
  else if a = 1000000 then (20, L) else if a = 1000001 then (20, 10) else if a = 1000002 then (21, 100) else if a = 1000003 then (21, 100) else (99, 0)
/-- references of a sheet -/
def rf_s (a : Nat) (k : Int) : Option Nat := if k = 5 then some (a + 1) else if k = 6 then some (a + 2) else if k = 7 then some (a + 3) else if k = 8 then some (a + 4) else none
def rf_0 (k : Int) : Option Nat := if k = 0 then some 1 else if k = 1 then some 13 else if k = 3 then some 14 else if k = 4 then some 16 else if k = 5 then some 21 else if k = 6 then some 26 else if k = 7 then some 232 else if k = 8 then some 238 else if k = 9 then some 360 else if k = 10 then some 371 else none
def rf_m (k : Int) : Option Nat := if k = 0 then some 374 else if k = 1 then some 375 else if k = 2 then some 376 else if k = 3 then some 377 else if k = 5 then some 378 else if k = 13 then some 379 else if k = 14 then some 380 else if k = 15 then some 381 else if k = 16 then some 382 else if k = 18 then some 383 else if k = 19 then some 384 else if k = 20 then some 385 else if k = 21 then some 386 else if k = 22 then some 387 else if k = 26 then some 388 else none
def rf_3 (a : Nat) (k : Int) : Option Nat := if k = 0 then some (a + 1) else if k = 1 then some (a + 2) else if k = 2 then some (a + 3) else none
def rf_a (e q : Nat) (a : Nat) (k : Int) : Option Nat :=
  if a < 32 then
    if a = 0 then rf_0 k
    else if a = 1 then (if k = 0 then some 2 else if k = 1 then some 3 else if k = 2 then some 4 else none)
    else if a = 4 then (if 0 ≤ k ∧ k < 8 then some (5 + k.toNat) else none)
    else if a = 14 then (if k = 0 then some q else none)
    else if a = 16 then rf_s 16 k else if a = 21 then rf_s 21 k
    else if a = 26 then (if k = 0 then some 27 else if k = 1 then some 31 else none)
    else if a = 27 then rf_3 27 k
    else if a = 31 then (if 0 ≤ k ∧ k < 200 then some (32 + k.toNat) else none) else none
  else if a < 240 then
    if a = 232 then (if k = 0 then some 16 else if k = 1 then some 21 else if k = 2 then some 26 else if k = 3 then some 233 else if k = 4 then some 237 else if k = 6 then some e else none)
    else if a = 233 then rf_3 233 k
    else if a = 238 then (if k = 0 then some 239 else none)
    else if a = 239 then (if 0 ≤ k ∧ k < 24 then some (240 + 5 * k.toNat) else none) else none
  else if a < 360 then (if (a - 240) % 5 = 0 then rf_s a k else none)
  else if a < 389 then
    if a = 360 then (if 0 ≤ k ∧ k < 2 then some (361 + 5 * k.toNat) else none)
    else if a = 361 then rf_s 361 k else if a = 366 then rf_s 366 k
    else if a = 371 then (if k = 0 then some 16 else if k = 1 then some 372 else none)
    else if a = 373 then rf_m k else none
  else if a < 1000000 then (if a % 2 = 1 ∧ k = 0 then some (a + 1) else none) else none
def TT (e q n L : Nat) : Tp := (n, sh_a n L, rf_a e q)
def IsSh (t : Tp) (a : Nat) : Prop := t.2.1 a = (8, 9) ∧ t.2.1 (a + 1) = (20, 12) ∧ t.2.1 (a + 2) = (20, 12) ∧ t.2.1 (a + 3) = (20, 12) ∧ t.2.1 (a + 4) = (20, 12) ∧ t.2.2 a 5 = some (a + 1) ∧ t.2.2 a 6 = some (a + 2) ∧ t.2.2 a 7 = some (a + 3) ∧ t.2.2 a 8 = some (a + 4) ∧ a + 4 < 1000000
def IsOl (t : Tp) (a : Nat) : Prop := t.2.1 a = (3, 3) ∧ t.2.1 (a + 1) = (20, 12) ∧ t.2.1 (a + 2) = (20, 12) ∧ t.2.1 (a + 3) = (20, 12) ∧ t.2.2 a 0 = some (a + 1) ∧ t.2.2 a 1 = some (a + 2) ∧ t.2.2 a 2 = some (a + 3) ∧ a + 3 < 1000000
section LAY
variable {e q n L : Nat}
theorem sh_16 : IsSh (TT e q n L) 16 := ⟨rfl, rfl, rfl, rfl, rfl, rfl, rfl, rfl, rfl, by decide⟩
theorem sh_21 : IsSh (TT e q n L) 21 := ⟨rfl, rfl, rfl, rfl, rfl, rfl, rfl, rfl, rfl, by decide⟩
theorem sh_361 : IsSh (TT e q n L) 361 := ⟨rfl, rfl, rfl, rfl, rfl, rfl, rfl, rfl, rfl, by decide⟩
theorem sh_366 : IsSh (TT e q n L) 366 := ⟨rfl, rfl, rfl, rfl, rfl, rfl, rfl, rfl, rfl, by decide⟩
theorem ol_27 : IsOl (TT e q n L) 27 := ⟨rfl, rfl, rfl, rfl, rfl, rfl, rfl, by decide⟩
theorem ol_233 : IsOl (TT e q n L) 233 := ⟨rfl, rfl, rfl, rfl, rfl, rfl, rfl, by decide⟩
theorem sh_past {i : Nat} (hi : i < 24) : IsSh (TT e q n L) (240 + 5 * i) := by
  have key : ∀ i, i < 24 → sh_c (240 + 5 * i) = (8, 9) ∧ sh_c (240 + 5 * i + 1) = (20, 12) ∧ sh_c (240 + 5 * i + 2) = (20, 12) ∧ sh_c (240 + 5 * i + 3) = (20, 12) ∧ sh_c (240 + 5 * i + 4) = (20, 12) := by decide +kernel
  obtain ⟨k0, k1, k2, k3, k4⟩ := key i hi
  have e0 : ∀ a, a < 373 → (TT e q n L).2.1 a = sh_c a := fun a ha => by show sh_a n L a = _; unfold sh_a; rw [if_pos ha]
  have e1 : ∀ k, (TT e q n L).2.2 (240 + 5 * i) k = rf_s (240 + 5 * i) k := fun k => by
    show rf_a e q (240 + 5 * i) k = _
    unfold rf_a
    rw [if_neg (by omega), if_neg (by omega), if_pos (by omega), if_pos (by omega)]
  refine ⟨?_, ?_, ?_, ?_, ?_, ?_, ?_, ?_, ?_, by omega⟩
  · rw [e0 _ (by omega)]; exact k0
  · rw [e0 _ (by omega)]; exact k1
  · rw [e0 _ (by omega)]; exact k2
  · rw [e0 _ (by omega)]; exact k3
  · rw [e0 _ (by omega)]; exact k4
  · rw [e1]; rfl
  · rw [e1]; rfl
  · rw [e1]; rfl
  · rw [e1]; rfl
/-- the rows of guesses ahead -/
theorem sh_ah {i : Nat} (h : i < 200) : (TT e q n L).2.1 (32 + i) = (20, 12) := by
  show sh_a n L (32 + i) = _
  unfold sh_a sh_c
  rw [if_pos (by omega), if_neg (by omega)]
  by_cases h2 : 32 + i < 232
  · rw [if_pos h2]
  · omega
theorem rf_ah {i : Int} (h0 : 0 ≤ i) (h1 : i < 200) : (TT e q n L).2.2 31 i = some (32 + i.toNat) := by
  show rf_a e q 31 i = _
  unfold rf_a
  rw [if_pos (by decide), if_neg (by decide), if_neg (by decide), if_neg (by decide), if_neg (by decide), if_neg (by decide), if_neg (by decide), if_neg (by decide), if_neg (by decide), if_pos rfl, if_pos ⟨h0, h1⟩]
theorem sh_row {i : Nat} (h : i < 8) : (TT e q n L).2.1 (5 + i) = (20, 40) := by
  have key : ∀ i, i < 8 → sh_c (5 + i) = (20, 40) := by decide +kernel
  show sh_a n L (5 + i) = _
  unfold sh_a
  rw [if_pos (by omega), key i h]
theorem rf_row {i : Int} (h0 : 0 ≤ i) (h1 : i < 8) : (TT e q n L).2.2 4 i = some (5 + i.toNat) := by
  show rf_a e q 4 i = _
  unfold rf_a
  rw [if_pos (by decide), if_neg (by decide), if_neg (by decide), if_pos rfl, if_pos ⟨h0, h1⟩]
theorem rf_past {i : Int} (h0 : 0 ≤ i) (h1 : i < 24) : (TT e q n L).2.2 239 i = some (240 + 5 * i.toNat) := by
  show rf_a e q 239 i = _
  unfold rf_a
  rw [if_neg (by decide), if_pos (by decide), if_neg (by decide), if_neg (by decide), if_neg (by decide), if_pos rfl, if_pos ⟨h0, h1⟩]
theorem rf_img {i : Int} (h0 : 0 ≤ i) (h1 : i < 2) : (TT e q n L).2.2 360 i = some (361 + 5 * i.toNat) := by
  show rf_a e q 360 i = _
  unfold rf_a
  rw [if_neg (by decide), if_neg (by decide), if_neg (by decide), if_pos (by decide), if_pos rfl, if_pos ⟨h0, h1⟩]
theorem sh_img {i : Nat} (h : i < 2) : IsSh (TT e q n L) (361 + 5 * i) := by
  rcases (show i = 0 ∨ i = 1 by omega) with rfl | rfl
  · exact sh_361
  · exact sh_366
end LAY
