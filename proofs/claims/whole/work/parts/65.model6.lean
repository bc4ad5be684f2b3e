section MO6
variable {e q n L : Nat} {h : Mem} {V : VW} {a : Nat}
theorem eqg_sym {f g : Int → Int} : ∀ n : Nat, eqg f g n = eqg g f n
  | 0 => rfl
  | n + 1 => by
    show (eqg f g n && decide (f n = g n)) = (eqg g f n && decide (g n = f n))
    rw [eqg_sym n, decide_eq_decide.2 ⟨Eq.symm, Eq.symm⟩]
theorem l_keepsG {Q : Option AV → Tp → Mem → Prop} {N : Nat} {p : Int} (sa : (TT e q n L).2.1 a = (20, 53)) (ha : a ≠ 387) (ev : mV h a 0 = V) (v2 : V 0 0 ≤ 12) (hN : V 0 0 = (N : Int)) (p0 : 0 ≤ p) (p1 : p ≤ 200)
    (hk : ∀ hh, (∀ c, c ≠ 387 → hh c = h c) → (∀ i : Nat, i < N → hh 387 (12 * p + i) = V 3 i) → (∀ j : Int, j < 12 * p ∨ 12 * p + 12 ≤ j → hh 387 j = h 387 j) → Q none (TT e q n L) hh) :
    ∀ (m k : Nat) (hh : Mem), k + m = N → (∀ c, c ≠ 387 → hh c = h c) → (∀ i : Nat, i < k → hh 387 (12 * p + i) = V 3 i) → (∀ j : Int, j < 12 * p ∨ 12 * p + 12 ≤ j → hh 387 j = h 387 j) → AW M_X9_keepsGuesses 0 0 Q 2 [some (vR 373), some (vR a), some (vI p), some (vI k)] [] (TT e q n L) hh 0 0 := by
  intro m
  induction m with
  | zero =>
    intro k hh hi hf g1 g2
    have ek : k = N := by omega
    subst ek
    have ea : hh a 3 = k := by rw [hf a ha, mA_c ev, hN]
    refine aw_iload_n dX9_keepsGuesses_2 rfl ?_
    refine aw_aload_n dX9_keepsGuesses_3 rfl ?_
    refine aw_iconst dX9_keepsGuesses_4 (by decide) (by decide) ?_
    refine aw_iaload dX9_keepsGuesses_5 (by first | rfl | assumption) (by omega) (by omega) ?_
    rw [ea]
    refine aw_icmp_ge 35 dX9_keepsGuesses_6 rfl (fun c6 => ?_) (fun c6 => ?_)
    · refine aw_return dX9_keepsGuesses_35 rfl (Nat.le_refl _) (Nat.le_refl _) ?_
      exact hk hh hf g1 g2
    · exfalso; omega
  | succ m ih =>
    intro k hh hi hf g1 g2
    have ea : hh a 3 = N := by rw [hf a ha, mA_c ev, hN]
    have eg : hh a (5 + 4 * k + 2) = V 3 k := by rw [hf a ha]; exact mA3 ev (by omega) (by omega)
    have z := ih (k + 1)
    refine aw_iload_n dX9_keepsGuesses_2 rfl ?_
    refine aw_aload_n dX9_keepsGuesses_3 rfl ?_
    refine aw_iconst dX9_keepsGuesses_4 (by decide) (by decide) ?_
    refine aw_iaload dX9_keepsGuesses_5 (by first | rfl | assumption) (by omega) (by omega) ?_
    rw [ea]
    refine aw_icmp_ge 35 dX9_keepsGuesses_6 rfl (fun c6 => ?_) (fun c6 => ?_)
    · exfalso; omega
    · refine aw_aload_n dX9_keepsGuesses_9 rfl ?_
      refine aw_getR1 dX9_keepsGuesses_10 fx_RX9_50 (by first | rfl | assumption) (by first | rfl | assumption) ?_
      refine aw_bipush dX9_keepsGuesses_13 (by decide) (by decide) ?_
      refine aw_iload_n dX9_keepsGuesses_15 rfl ?_
      refine aw_imul dX9_keepsGuesses_16 (by omega) (by omega) ?_
      refine aw_iload_n dX9_keepsGuesses_17 rfl ?_
      refine aw_iadd dX9_keepsGuesses_18 (by omega) (by omega) ?_
      refine aw_aload_n dX9_keepsGuesses_19 rfl ?_
      refine aw_iconst dX9_keepsGuesses_20 (by decide) (by decide) ?_
      refine aw_iconst dX9_keepsGuesses_21 (by decide) (by decide) ?_
      refine aw_iload_n dX9_keepsGuesses_22 rfl ?_
      refine aw_imul dX9_keepsGuesses_23 (by omega) (by omega) ?_
      refine aw_iadd dX9_keepsGuesses_24 (by omega) (by omega) ?_
      refine aw_iconst dX9_keepsGuesses_25 (by decide) (by decide) ?_
      refine aw_iadd dX9_keepsGuesses_26 (by omega) (by omega) ?_
      refine aw_iaload dX9_keepsGuesses_27 (by first | rfl | assumption) (by omega) (by omega) ?_
      rw [eg]
      refine aw_iastore dX9_keepsGuesses_28 (by first | rfl | assumption) (by omega) (by omega) (by omega) ?_
      refine aw_iinc (ls' := [_, _, _, _]) dX9_keepsGuesses_29 (by decide) rfl (by omega) (by omega) rfl ?_
      refine aw_goto 2 dX9_keepsGuesses_32 rfl ?_
      refine z _ (by omega) (fun c hc => by rw [am_up_ne hc]; exact hf c hc) (fun i hi2 => ?_) (fun j hj => ?_)
      · unfold am_up
        by_cases y : i = k
        · subst y; rw [if_pos ⟨rfl, rfl⟩]
        · rw [if_neg (by omega)]; exact g1 i (by omega)
      · unfold am_up
        rw [if_neg (by omega)]
        exact g2 j hj
theorem c_X9_keepsGuesses {N : Nat} {p : Int} (sa : (TT e q n L).2.1 a = (20, 53)) (ha : a ≠ 387) (ev : mV h a 0 = V) (v2 : V 0 0 ≤ 12) (hN : V 0 0 = (N : Int)) (p0 : 0 ≤ p) (p1 : p ≤ 200) : Sem M_X9_keepsGuesses [vR 373, vR a, vI p] (TT e q n L) h 0 0 (fun v t' h' => v = none ∧ t' = TT e q n L ∧ (∀ c, c ≠ 387 → h' c = h c) ∧ (∀ i : Nat, i < N → h' 387 (12 * p + i) = V 3 i) ∧ ∀ j : Int, j < 12 * p ∨ 12 * p + 12 ≤ j → h' 387 j = h 387 j) := by
  refine sem_intro (by decide) rfl (Nat.le_of_ble_eq_true rfl) rfl ?_
  refine aw_iconst dX9_keepsGuesses_0 (by decide) (by decide) ?_
  refine aw_istore_n (ls' := [_, _, _, _]) dX9_keepsGuesses_1 (by decide) rfl ?_
  exact l_keepsG (N := N) sa ha ev v2 hN p0 p1 (fun hh f g k => ⟨rfl, rfl, f, g, k⟩) N 0 h (by omega) (fun _ _ => rfl) (fun i hi => absurd hi (Nat.not_lt_zero i)) (fun _ _ => rfl)
theorem l_areG {Q : Option AV → Tp → Mem → Prop} {N : Nat} {p : Int} (sa : (TT e q n L).2.1 a = (20, 53)) (ev : mV h a 0 = V) (v2 : V 0 0 ≤ 12) (hN : V 0 0 = (N : Int)) (p0 : 0 ≤ p) (p1 : p ≤ 200) (hk : Q (some (vI (if eqg (V 3) (fun i => h 387 (12 * p + i)) N = true then 1 else 0))) (TT e q n L) h) :
    ∀ (m k : Nat), k + m = N → AW M_X9_areGuesses 0 0 Q 5 [some (vR 373), some (vR a), some (vI p), some (vI (if eqg (V 3) (fun i => h 387 (12 * p + i)) k = true then 1 else 0)), some (vI k)] [] (TT e q n L) h 0 0 := by
  have ea : h a 3 = N := by rw [mA_c ev, hN]
  intro m
  induction m with
  | zero =>
    intro k hi
    have ek : k = N := by omega
    subst ek
    refine aw_iload dX9_areGuesses_5 rfl ?_
    refine aw_aload_n dX9_areGuesses_7 rfl ?_
    refine aw_iconst dX9_areGuesses_8 (by decide) (by decide) ?_
    refine aw_iaload dX9_areGuesses_9 (by first | rfl | assumption) (by omega) (by omega) ?_
    rw [ea]
    refine aw_icmp_ge 54 dX9_areGuesses_10 rfl (fun c10 => ?_) (fun c10 => ?_)
    · refine aw_iload_n dX9_areGuesses_54 rfl ?_
      refine aw_zreturn dX9_areGuesses_55 rfl (Nat.le_refl _) (Nat.le_refl _) (by split <;> omega) (by split <;> omega) ?_
      exact hk
    · exfalso; omega
  | succ m ih =>
    intro k hi
    have eg : h a (5 + 4 * k + 2) = V 3 k := mA3 ev (by omega) (by omega)
    have z := ih (k + 1) (by omega)
    have es : eqg (V 3) (fun i => h 387 (12 * p + i)) (k + 1) = (eqg (V 3) (fun i => h 387 (12 * p + i)) k && decide (V 3 k = h 387 (12 * p + k))) := rfl
    rw [es] at z
    refine aw_iload dX9_areGuesses_5 rfl ?_
    refine aw_aload_n dX9_areGuesses_7 rfl ?_
    refine aw_iconst dX9_areGuesses_8 (by decide) (by decide) ?_
    refine aw_iaload dX9_areGuesses_9 (by first | rfl | assumption) (by omega) (by omega) ?_
    rw [ea]
    refine aw_icmp_ge 54 dX9_areGuesses_10 rfl (fun c10 => ?_) (fun c10 => ?_)
    · exfalso; omega
    · refine aw_iload_n dX9_areGuesses_13 rfl ?_
      refine aw_if_eq 46 dX9_areGuesses_14 rfl (fun c14 => ?_) (fun c14 => ?_)
      · refine aw_iconst dX9_areGuesses_46 (by decide) (by decide) ?_
        refine aw_istore_n (ls' := [_, _, _, _, _]) dX9_areGuesses_47 (by decide) rfl ?_
        refine aw_iinc (ls' := [_, _, _, _, _]) dX9_areGuesses_48 (by decide) rfl (by omega) (by omega) rfl ?_
        refine aw_goto 5 dX9_areGuesses_51 rfl ?_
        first | (rw [if_pos (by rw [Bool.and_eq_true]; exact ⟨b_t c14, decide_eq_true (by omega)⟩)] at z; exact aw_less (by repeat' (first | exact trivial | exact rfl | apply And.intro)) z) | (rw [if_neg (by rw [Bool.and_eq_true]; intro y; have := of_decide_eq_true y.2; omega)] at z; exact aw_less (by repeat' (first | exact trivial | exact rfl | apply And.intro)) z) | (rw [if_neg (by rw [Bool.and_eq_true]; intro y; exact b_f c14 y.1)] at z; exact aw_less (by repeat' (first | exact trivial | exact rfl | apply And.intro)) z)
      · refine aw_aload_n dX9_areGuesses_17 rfl ?_
        refine aw_getR1 dX9_areGuesses_18 fx_RX9_50 (by first | rfl | assumption) (by first | rfl | assumption) ?_
        refine aw_bipush dX9_areGuesses_21 (by decide) (by decide) ?_
        refine aw_iload_n dX9_areGuesses_23 rfl ?_
        refine aw_imul dX9_areGuesses_24 (by omega) (by omega) ?_
        refine aw_iload dX9_areGuesses_25 rfl ?_
        refine aw_iadd dX9_areGuesses_27 (by omega) (by omega) ?_
        refine aw_iaload dX9_areGuesses_28 (by first | rfl | assumption) (by omega) (by omega) ?_
        refine aw_aload_n dX9_areGuesses_29 rfl ?_
        refine aw_iconst dX9_areGuesses_30 (by decide) (by decide) ?_
        refine aw_iconst dX9_areGuesses_31 (by decide) (by decide) ?_
        refine aw_iload dX9_areGuesses_32 rfl ?_
        refine aw_imul dX9_areGuesses_34 (by omega) (by omega) ?_
        refine aw_iadd dX9_areGuesses_35 (by omega) (by omega) ?_
        refine aw_iconst dX9_areGuesses_36 (by decide) (by decide) ?_
        refine aw_iadd dX9_areGuesses_37 (by omega) (by omega) ?_
        refine aw_iaload dX9_areGuesses_38 (by first | rfl | assumption) (by omega) (by omega) ?_
        rw [eg]
        refine aw_icmp_ne 46 dX9_areGuesses_39 rfl (fun c39 => ?_) (fun c39 => ?_)
        · refine aw_iconst dX9_areGuesses_46 (by decide) (by decide) ?_
          refine aw_istore_n (ls' := [_, _, _, _, _]) dX9_areGuesses_47 (by decide) rfl ?_
          refine aw_iinc (ls' := [_, _, _, _, _]) dX9_areGuesses_48 (by decide) rfl (by omega) (by omega) rfl ?_
          refine aw_goto 5 dX9_areGuesses_51 rfl ?_
          first | (rw [if_pos (by rw [Bool.and_eq_true]; exact ⟨b_t c14, decide_eq_true (by omega)⟩)] at z; exact aw_less (by repeat' (first | exact trivial | exact rfl | apply And.intro)) z) | (rw [if_neg (by rw [Bool.and_eq_true]; intro y; have := of_decide_eq_true y.2; omega)] at z; exact aw_less (by repeat' (first | exact trivial | exact rfl | apply And.intro)) z) | (rw [if_neg (by rw [Bool.and_eq_true]; intro y; exact b_f c14 y.1)] at z; exact aw_less (by repeat' (first | exact trivial | exact rfl | apply And.intro)) z)
        · refine aw_iconst dX9_areGuesses_42 (by decide) (by decide) ?_
          refine aw_goto 47 dX9_areGuesses_43 rfl ?_
          refine aw_istore_n (ls' := [_, _, _, _, _]) dX9_areGuesses_47 (by decide) rfl ?_
          refine aw_iinc (ls' := [_, _, _, _, _]) dX9_areGuesses_48 (by decide) rfl (by omega) (by omega) rfl ?_
          refine aw_goto 5 dX9_areGuesses_51 rfl ?_
          first | (rw [if_pos (by rw [Bool.and_eq_true]; exact ⟨b_t c14, decide_eq_true (by omega)⟩)] at z; exact aw_less (by repeat' (first | exact trivial | exact rfl | apply And.intro)) z) | (rw [if_neg (by rw [Bool.and_eq_true]; intro y; have := of_decide_eq_true y.2; omega)] at z; exact aw_less (by repeat' (first | exact trivial | exact rfl | apply And.intro)) z) | (rw [if_neg (by rw [Bool.and_eq_true]; intro y; exact b_f c14 y.1)] at z; exact aw_less (by repeat' (first | exact trivial | exact rfl | apply And.intro)) z)
theorem c_X9_areGuesses {N : Nat} {p : Int} (sa : (TT e q n L).2.1 a = (20, 53)) (ev : mV h a 0 = V) (v2 : V 0 0 ≤ 12) (hN : V 0 0 = (N : Int)) (p0 : 0 ≤ p) (p1 : p ≤ 200) : SemE M_X9_areGuesses [vR 373, vR a, vI p] (TT e q n L) h (some (vI (if eqg (V 3) (fun i => h 387 (12 * p + i)) N = true then 1 else 0))) (TT e q n L) h := by
  refine sem_intro (by decide) rfl (Nat.le_of_ble_eq_true rfl) rfl ?_
  refine aw_iconst dX9_areGuesses_0 (by decide) (by decide) ?_
  refine aw_istore_n (ls' := [_, _, _, _, _]) dX9_areGuesses_1 (by decide) rfl ?_
  refine aw_iconst dX9_areGuesses_2 (by decide) (by decide) ?_
  refine aw_istore (ls' := [_, _, _, _, _]) dX9_areGuesses_3 (by decide) rfl ?_
  exact aw_less (by repeat' (first | exact trivial | exact rfl | apply And.intro)) (l_areG (N := N) sa ev v2 hN p0 p1 ⟨rfl, rfl, rfl⟩ N 0 (by omega))
end MO6
