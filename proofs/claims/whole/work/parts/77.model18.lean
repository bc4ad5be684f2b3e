/-! the acts -/
section MOI
variable {e q n L : Nat} {h : Mem} {σ : ST}
theorem MS.act {h' : Mem} {V : VW} {p : Nat × (Nat → VW)} (hM : MS h σ) (hp : p.1 ≤ 24) (ev : mV h' 379 0 = V) (h17 : h' 373 17 = (p.1 : Int) ∧ ∀ j : Nat, j < p.1 → mV h' 382 (53 * (j : Int)) = p.2 j) (hf : ∀ c, c = 374 ∨ c = 375 ∨ c = 376 ∨ c = 378 ∨ c = 383 ∨ c = 384 ∨ c = 388 → h' c = h c) (hg : ∀ k : Int, k = 4 ∨ k = 6 ∨ k = 7 ∨ k = 27 → h' 373 k = h 373 k) : MS h' (wLP σ V p) := by
  obtain ⟨m1, m2, m3, m4, m5, m6, m7, m8⟩ := hM
  have eV : ∀ (c : Nat) (o : Int), h' c = h c → mV h' c o = mV h c o := fun c o e => by unfold mV mS; rw [e]
  refine ⟨fun i i0 i1 => ?_, ?_, ?_, ?_, ev, ⟨h17.1, hp, h17.2⟩, fun k k0 k1 => ?_, ?_⟩
  · rw [hf 374 (by omega), hf 375 (by omega), hf 376 (by omega)]; exact m1 i i0 i1
  · rw [hg 4 (by omega)]; exact m2
  · rw [hg 6 (by omega), hf 378 (by omega)]; exact m3
  · rw [hg 7 (by omega)]; exact m4
  · rw [hf 384 (by omega), eV 383 _ (hf 383 (by omega))]; exact m7 k k0 k1
  · rw [hg 27 (by omega), hf 388 (by omega)]; exact m8
theorem pushP_le {p : Nat × (Nat → VW)} {V : VW} (h : p.1 ≤ 24) : (pushP p V).1 ≤ 24 := by
  unfold pushP
  split
  · show p.1 + 1 ≤ 24; omega
  · exact Nat.le_refl 24
end MOI
