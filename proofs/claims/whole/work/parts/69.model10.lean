section MOA
variable {e q n L : Nat} {h : Mem} {a : Nat}
/-- nothing but the sheet, the places, the guesses and what is counted -/
def FM (a : Nat) (h h' : Mem) : Prop := (∀ c, c ≠ a → c ≠ 373 → c ≠ 385 → c ≠ 387 → h' c = h c) ∧ ∀ k : Int, k < 23 ∨ 25 < k → h' 373 k = h 373 k
theorem FM.rf : FM a h h := ⟨fun _ _ _ _ _ => rfl, fun _ _ => rfl⟩
theorem FM.tr {h1 h2 : Mem} (x : FM a h h1) (y : FM a h1 h2) : FM a h h2 := ⟨fun c c1 c2 c3 c4 => (y.1 c c1 c2 c3 c4).trans (x.1 c c1 c2 c3 c4), fun k hk => (y.2 k hk).trans (x.2 k hk)⟩
set_option maxHeartbeats 8000000 in
theorem l_settles {Q : Option AV → Tp → Mem → Prop} {R : SR5} (sa : (TT e q n L).2.1 a = (20, 53)) (a1 : a = 379 ∨ a = 380 ∨ a = 381)
    (hk : ∀ hh, mV hh a 0 = addR R.1 R.2.1 → hh 373 23 = R.2.1 → hh 373 24 = R.2.2.1 → hh 373 25 = R.2.2.2.1 → FM a h hh → Q none (TT e q n L) hh) :
    ∀ (nn : Nat) (V : VW) (H : Nat → Int → Int) (kp F : Nat) (f g : Int) (hh : Mem), F + kp + nn = 200 → WFv V → 0 ≤ V 0 4 → V 0 4 ≤ 10000 → mV hh a 0 = addR V ((F + kp : Nat) : Int) → hh 373 23 = ((F + kp : Nat) : Int) → hh 373 24 = f → hh 373 25 = g → 0 ≤ f → f ≤ F + kp → (f = 0 → g = 0) → (f ≠ 0 → g ≠ 0) →
      (∀ s : Nat, s ≤ kp → ∀ i : Int, 0 ≤ i → i < V 0 0 → hh 387 (12 * ((F : Int) + s) + i) = hup H kp (V 3) s i) → (∀ s : Nat, s < kp → ∀ i : Int, 0 ≤ i → i < V 0 0 → 1 ≤ H s i ∧ H s i ≤ 98) → FM a h hh → strun false nn V H kp ((F + kp : Nat) : Int) f g = R →
      AW M_X9_settles 0 0 Q 23 [some (vR 373), some (vR a), some (vI F), none, none] [] (TT e q n L) hh 0 0 := by
  intro nn
  induction nn with
  | zero =>
    intro V H kp F f g hh hn hV r0 r1 ev w1 w2 w3 f0 f1 fg fg2 hG hH hf hR
    subst hR
    refine aw_aload_n dX9_settles_23 rfl ?_
    refine aw_getI dX9_settles_24 fx_RX9_166 (by first | rfl | assumption) ?_
    refine aw_sipush dX9_settles_27 (by decide) (by decide) ?_
    rw [w1]
    refine aw_icmp_ge 164 dX9_settles_30 rfl (fun c30 => ?_) (fun c30 => ?_)
    · refine aw_return dX9_settles_164 rfl (Nat.le_refl _) (Nat.le_refl _) ?_
      exact hk hh ev w1 w2 w3 hf
    · exfalso; omega
  | succ nn ih =>
    intro V H kp F f g hh hn hV r0 r1 ev w1 w2 w3 f0 f1 fg fg2 hG hH hf hR
    have v1 := hV.1
    have v2 := hV.2.1
    have nH : ∀ s : Nat, s < kp + 1 → ∀ i : Int, 0 ≤ i → i < V 0 0 → 1 ≤ hup H kp (V 3) s i ∧ hup H kp (V 3) s i ≤ 98 := by
      intro s hs i i0 i1
      obtain ⟨-, -, -, -, j5, j6, -, -⟩ := hV.2.2.2.2.2.2.2.2 i i0 i1
      by_cases y : s = kp
      · subst y; rw [hup_at]; exact ⟨j5, j6⟩
      · rw [hup_ne y]; exact hH s (by omega) i i0 i1
    have wR := rnd_wf hV
    have tl : ∀ (h2 : Mem), stl V = false → mV h2 a 0 = addR (rnd V) ((F + kp + 1 : Nat) : Int) → h2 373 23 = ((F + kp + 1 : Nat) : Int) → h2 373 24 = f → h2 373 25 = g → h2 387 = hh 387 → FM a h h2 → AW M_X9_settles 0 0 Q 57 [some (vR 373), some (vR a), some (vI F), none, none] [] (TT e q n L) h2 0 0 := by
      intro h2 hst ev2 u1 u2 u3 u7 uf
      have cR : cut (addR (rnd V) ((F + kp + 1 : Nat) : Int)) = addR (rnd V) ((F + kp + 1 : Nat) : Int) := by rw [← ev2]; exact mV_cut
      have eF : find (addR (rnd V) ((F + kp + 1 : Nat) : Int) 3) (fun s i => h2 387 (12 * ((F : Int) + s) + i)) (V 0 0).toNat kp = find (rnd V 3) (hup H kp (V 3)) (V 0 0).toNat kp := by
        rw [addR_j (j := 3) (by decide), u7]
        exact find_congr kp (fun _ _ => rfl) (fun s hs i hi => hG s (by omega) i (by omega) (by omega))
      have fb := find_bd (f := rnd V 3) (H := hup H kp (V 3)) (cnt := (V 0 0).toNat) kp
      unfold strun at hR
      rw [if_neg (by rw [hst]; decide)] at hR
      have go : AW M_X9_settles 0 0 Q 97 [some (vR 373), some (vR a), some (vI F), some (vI (smS F (find (rnd V 3) (hup H kp (V 3)) (V 0 0).toNat kp))), none] [] (TT e q n L) h2 0 0 := by
        generalize hfd : find (rnd V 3) (hup H kp (V 3)) (V 0 0).toNat kp = fd at *
        sorry
      have z := l_same (e := e) (q := q) (n := n) (L := L) (Q := Q) (h := h2) (V := addR (rnd V) ((F + kp + 1 : Nat) : Int)) (a := a) (N := (V 0 0).toNat) (F := F) (kp := kp) sa ev2 (by rw [addR_0, rnd_0]; exact v2) (by rw [addR_0, rnd_0]; omega) (by rw [u1]; omega) (by omega) (by rw [eF]; exact go) kp 0 (by omega)
      refine aw_ldc (n := -1000000) dX9_settles_57 kc_RX9_56 (by decide) ?_
      refine aw_istore_n (ls' := [_, _, _, _, _]) dX9_settles_59 (by decide) rfl ?_
      refine aw_iload_n dX9_settles_60 rfl ?_
      refine aw_istore (ls' := [_, _, _, _, _]) dX9_settles_61 (by decide) rfl ?_
      exact aw_less (by repeat' (first | exact trivial | exact rfl | apply And.intro)) z
    have ne : a ≠ 385 := by omega
    have ne2 : a ≠ 373 := by omega
    refine aw_aload_n dX9_settles_23 rfl ?_
    refine aw_getI dX9_settles_24 fx_RX9_166 (by first | rfl | assumption) ?_
    refine aw_sipush dX9_settles_27 (by decide) (by decide) ?_
    rw [w1]
    refine aw_icmp_ge 164 dX9_settles_30 rfl (fun c30 => ?_) (fun c30 => ?_)
    · exfalso; omega
    · refine aw_aload_n dX9_settles_33 rfl ?_
      refine aw_aload_n dX9_settles_34 rfl ?_
      refine aw_v1q dX9_settles_35 vl_RX9_179 (by first | rfl | assumption) (Nat.le_of_ble_eq_true rfl) (Nat.le_of_ble_eq_true rfl) (Nat.le_of_ble_eq_true rfl) (Nat.le_refl _) (Nat.le_refl _) (c_X9_isSettled sa ne ev (addR_wf hV)) ?_
      intro v t' h1 hq
      obtain ⟨rfl, rfl, f1⟩ := hq
      rw [stlA]
      have ev1 : mV h1 a 0 = addR V ((F + kp : Nat) : Int) := by unfold mV mS; rw [f1 a ne]; exact ev
      refine aw_if_ne 164 dX9_settles_38 rfl (fun c38 => ?_) (fun c38 => ?_)
      · refine aw_return dX9_settles_164 rfl (Nat.le_refl _) (Nat.le_refl _) ?_
        sorry
      · refine aw_aload_n dX9_settles_41 rfl ?_
        refine aw_aload_n dX9_settles_42 rfl ?_
        refine aw_v1q dX9_settles_43 vl_RX9_182 (by first | rfl | assumption) (Nat.le_of_ble_eq_true rfl) (Nat.le_of_ble_eq_true rfl) (Nat.le_of_ble_eq_true rfl) (Nat.le_refl _) (Nat.le_refl _) (c_X9_rounds sa ne (by omega) ev1 (addR_wf hV) (by sorry) (by sorry)) ?_
        intro v t' h2 hq
        obtain ⟨rfl, rfl, ev2, f2⟩ := hq
        refine aw_pop dX9_settles_46 rfl ?_
        refine aw_aload_n dX9_settles_47 rfl ?_
        refine aw_dup dX9_settles_48 rfl ?_
        refine aw_getI dX9_settles_49 fx_RX9_166 (by first | rfl | assumption) ?_
        refine aw_iconst dX9_settles_52 (by decide) (by decide) ?_
        refine aw_iadd dX9_settles_53 (by omega) (by omega) ?_
        refine aw_putI dX9_settles_54 fp_RX9_166 (by first | rfl | assumption) ?_
        sorry
end MOA
