theorem eqg_f {f f' g : Int → Int} {n : Nat} (h : f = f') : eqg f g n = eqg f' g n := by rw [h]
theorem stlA {V : VW} {r : Int} : stl (addR V r) = stl V := by
  unfold stl
  rw [addR_0, addR_j (j := 3) (by decide)]
  exact eqg_congr (fun _ _ => rfl) (fun i _ => pag_addR)
theorem frzA {V : VW} {r : Int} {H : Nat → Int → Int} {s kp : Nat} : frz (addR V r) H s kp = addR (frz V H s kp) r := by
  funext j k
  unfold frz
  rw [addR_0]
  by_cases z : j = 4 ∧ 0 ≤ k ∧ k < V 0 0
  · rw [if_pos z, addRj (by omega), if_pos z]
    unfold frw
    rw [addRj (by decide)]
    have ew : (fun j => wdg (addR V r) (H (s + j)) k) = fun j => wdg V (H (s + j)) k := by funext j; exact wdg_addR
    rw [ew]
  · rw [if_neg z]
    unfold addR
    by_cases y : j = 0 ∧ k = 4
    · rw [if_pos y, if_pos y]
      show _ = (if 0 = 4 ∧ _ then _ else V 0 4) + r
      rw [if_neg (by omega)]
    · rw [if_neg y, if_neg y]
      show V j k = if j = 4 ∧ 0 ≤ k ∧ k < V 0 0 then _ else V j k
      rw [if_neg z]
def smS (F : Int) (x : Int) : Int := if x = -1 then -1000000 else F + x
section MO9
variable {e q n L : Nat} {h : Mem} {V : VW} {a : Nat}
theorem l_same {Q : Option AV → Tp → Mem → Prop} {N F kp : Nat} (sa : (TT e q n L).2.1 a = (20, 53)) (ev : mV h a 0 = V) (v2 : V 0 0 ≤ 12) (hN : V 0 0 = (N : Int)) (hr : h 373 23 = (F : Int) + kp + 1) (hF : F + kp < 200)
    (hk : AW M_X9_settles 0 0 Q 97 [some (vR 373), some (vR a), some (vI F), some (vI (smS F (find (V 3) (fun s i => h 387 (12 * ((F : Int) + s) + i)) N kp))), none] [] (TT e q n L) h 0 0) :
    ∀ (m j : Nat), j + m = kp → AW M_X9_settles 0 0 Q 63 [some (vR 373), some (vR a), some (vI F), some (vI (smS F (find (V 3) (fun s i => h 387 (12 * ((F : Int) + s) + i)) N j))), some (vI ((F : Int) + j))] [] (TT e q n L) h 0 0 := by
  intro m
  induction m with
  | zero =>
    intro j hj
    have ej : j = kp := by omega
    subst ej
    refine aw_iload dX9_settles_63 rfl ?_
    refine aw_aload_n dX9_settles_65 rfl ?_
    refine aw_getI dX9_settles_66 fx_RX9_166 (by first | rfl | assumption) ?_
    refine aw_iconst dX9_settles_69 (by decide) (by decide) ?_
    refine aw_isub dX9_settles_70 (by omega) (by omega) ?_
    rw [hr]
    refine aw_icmp_gt 97 dX9_settles_71 rfl (fun c71 => ?_) (fun c71 => ?_)
    · exact aw_less (by repeat' (first | exact trivial | exact rfl | apply And.intro)) hk
    · exfalso; omega
  | succ m ih =>
    intro j hj
    have z := ih (j + 1) (by omega)
    have es : find (V 3) (fun s i => h 387 (12 * ((F : Int) + s) + i)) N (j + 1) = if eqg (V 3) (fun i => h 387 (12 * ((F : Int) + j) + i)) N = true then (j : Int) else find (V 3) (fun s i => h 387 (12 * ((F : Int) + s) + i)) N j := rfl
    rw [es, show ((j + 1 : Nat) : Int) = (j : Int) + 1 from rfl, ← Int.add_assoc] at z
    have ej : smS (F : Int) (j : Int) = F + j := if_neg (by omega)
    refine aw_iload dX9_settles_63 rfl ?_
    refine aw_aload_n dX9_settles_65 rfl ?_
    refine aw_getI dX9_settles_66 fx_RX9_166 (by first | rfl | assumption) ?_
    refine aw_iconst dX9_settles_69 (by decide) (by decide) ?_
    refine aw_isub dX9_settles_70 (by omega) (by omega) ?_
    rw [hr]
    refine aw_icmp_gt 97 dX9_settles_71 rfl (fun c71 => ?_) (fun c71 => ?_)
    · exfalso; omega
    · refine aw_aload_n dX9_settles_74 rfl ?_
      refine aw_aload_n dX9_settles_75 rfl ?_
      refine aw_iload dX9_settles_76 rfl ?_
      refine aw_v2i dX9_settles_78 vl_RX9_185 (by first | rfl | assumption) (Nat.le_of_ble_eq_true rfl) (Nat.le_of_ble_eq_true rfl) (Nat.le_of_ble_eq_true rfl) (Nat.le_refl _) (Nat.le_refl _) (c_X9_areGuesses (N := N) sa ev v2 hN (by omega) (by omega)) ?_
      refine aw_ifB_eq 89 dX9_settles_81 rfl (fun c81 => ?_) (fun c81 => ?_)
      · refine aw_iload_n dX9_settles_89 rfl ?_
        refine aw_istore_n (ls' := [_, _, _, _, _]) dX9_settles_90 (by decide) rfl ?_
        refine aw_iinc (ls' := [_, _, _, _, _]) dX9_settles_91 (by decide) rfl (by omega) (by omega) rfl ?_
        refine aw_goto 63 dX9_settles_94 rfl ?_
        first | (rw [if_pos c81, ej] at z; exact aw_less (by repeat' (first | exact trivial | exact rfl | apply And.intro)) z) | (rw [if_neg c81] at z; exact aw_less (by repeat' (first | exact trivial | exact rfl | apply And.intro)) z)
      · refine aw_iload dX9_settles_84 rfl ?_
        refine aw_goto 90 dX9_settles_86 rfl ?_
        refine aw_istore_n (ls' := [_, _, _, _, _]) dX9_settles_90 (by decide) rfl ?_
        refine aw_iinc (ls' := [_, _, _, _, _]) dX9_settles_91 (by decide) rfl (by omega) (by omega) rfl ?_
        refine aw_goto 63 dX9_settles_94 rfl ?_
        first | (rw [if_pos c81, ej] at z; exact aw_less (by repeat' (first | exact trivial | exact rfl | apply And.intro)) z) | (rw [if_neg c81] at z; exact aw_less (by repeat' (first | exact trivial | exact rfl | apply And.intro)) z)
end MO9
