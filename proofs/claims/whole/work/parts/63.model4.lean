theorem cut_of {W : VW} (h0 : ∀ k, k < 0 ∨ 5 ≤ k → W 0 k = 0) (h1 : ∀ (j : Nat) (k : Int), j ≠ 0 → 5 ≤ j ∨ k < 0 ∨ W 0 0 ≤ k → W j k = 0) : cut W = W := by
  funext j k
  unfold cut
  by_cases hj : j = 0
  · subst hj
    rw [if_pos rfl]
    split
    · rfl
    · exact (h0 k (by omega)).symm
  · rw [if_neg hj]
    split
    · rfl
    · exact (h1 j k hj (by omega)).symm
theorem cut_z0 {W : VW} (hc : cut W = W) {k : Int} (h : k < 0 ∨ 5 ≤ k) : W 0 k = 0 := by
  rw [← hc]; unfold cut; rw [if_pos rfl, if_neg (by omega)]
theorem cut_zj {W : VW} (hc : cut W = W) {j : Nat} {k : Int} (hj : j ≠ 0) (h : 5 ≤ j ∨ k < 0 ∨ W 0 0 ≤ k) : W j k = 0 := by
  rw [← hc]; unfold cut; rw [if_neg hj, if_neg (by omega)]
theorem rnd_0 {V : VW} {k : Int} : rnd V 0 k = V 0 k := if_neg (by omega)
theorem cut_rnd {V : VW} (hc : cut V = V) : cut (rnd V) = rnd V := cut_of (fun k hk => by rw [rnd_0]; exact cut_z0 hc hk) (fun j k hj hk => by
  rw [rnd_0] at hk
  unfold rnd
  rw [if_neg (by omega)]
  exact cut_zj hc hj hk)
theorem addR_0 {V : VW} {r : Int} : addR V r 0 0 = V 0 0 := if_neg (by omega)
theorem addRj {V : VW} {r : Int} {j : Nat} {k : Int} (h : j ≠ 0) : addR V r j k = V j k := if_neg (by omega)
theorem cut_addR {V : VW} {r : Int} (hc : cut V = V) : cut (addR V r) = addR V r := cut_of (fun k hk => by
  unfold addR
  rw [if_neg (by omega)]
  exact cut_z0 hc hk) (fun j k hj hk => by
  rw [addR_0] at hk
  rw [addRj hj]
  exact cut_zj hc hj hk)
theorem addR_add {V : VW} {r s : Int} : addR (addR V r) s = addR V (r + s) := by
  funext j k
  unfold addR
  by_cases z : j = 0 ∧ k = 4
  · rw [if_pos z, if_pos ⟨rfl, rfl⟩, if_pos z]; omega
  · rw [if_neg z, if_neg z, if_neg z]
theorem pag_addR {V : VW} {r i : Int} : pag (addR V r) i = pag V i := by
  unfold pag stand
  rw [pst_addR]
  rfl
theorem mV_is {h : Mem} {a : Nat} {W : VW} (hc : cut W = W) (s0 : h a 3 = W 0 0) (s1 : h a 0 = W 0 1) (s2 : h a 1 = W 0 2) (s3 : h a 2 = W 0 3) (s4 : h a 4 = W 0 4) (hj : ∀ k, 0 ≤ k → k < W 0 0 → h a (5 + 4 * k) = W 1 k ∧ h a (5 + 4 * k + 1) = W 2 k ∧ h a (5 + 4 * k + 2) = W 3 k ∧ h a (5 + 4 * k + 3) = W 4 k) : mV h a 0 = W := by
  rw [← hc]
  unfold mV
  refine cut_eq (fun k k0 k1 => ?_) (fun j k j0 j5 k0 k1 => ?_)
  · have hk : k = 0 ∨ k = 1 ∨ k = 2 ∨ k = 3 ∨ k = 4 := by omega
    rcases hk with rfl | rfl | rfl | rfl | rfl
    · exact s0
    · exact s1
    · exact s2
    · exact s3
    · exact s4
  · have k2 : k < W 0 0 := by rw [← s0]; exact k1
    obtain ⟨g1, g2, g3, g4⟩ := hj k k0 k2
    unfold mS
    rw [if_neg j0]
    have hj4 : j = 1 ∨ j = 2 ∨ j = 3 ∨ j = 4 := by omega
    rcases hj4 with rfl | rfl | rfl | rfl
    · rw [← g1]; exact congrArg (h a) (by omega)
    · rw [← g2]; exact congrArg (h a) (by omega)
    · rw [← g3]; exact congrArg (h a) (by omega)
    · rw [← g4]; exact congrArg (h a) (by omega)
theorem mV_cut {h : Mem} {a : Nat} {o : Int} : cut (mV h a o) = mV h a o := cut_cut _
section MO4
variable {e q n L : Nat} {h : Mem} {V : VW} {a : Nat}
theorem xx_zz {w : Int} {i : Int} (h0 : 0 ≤ i) : stand V (xx w 0) i = stand V zz i := stand_congr h0 (fun k _ _ => by unfold xx zz; split <;> rfl)
theorem c_X9_setsOut {w b : Int} (sa : (TT e q n L).2.1 a = (20, 53)) (ha : a ≠ 385) (ev : mV h a 0 = V) (hV : WFv V) (hb : 0 ≤ b ∧ b ≤ 1) : Sem M_X9_setsOut [vR 373, vR a, vI w, vI b] (TT e q n L) h 0 0 (fun v t' h' => v = none ∧ t' = TT e q n L ∧ (∀ c, c ≠ 385 → h' c = h c) ∧ Dn V (xx w b) h' (V 0 0).toNat) := by
  have v1 := hV.1
  have v2 := hV.2.1
  have ef : h a 2 = V 0 3 := mA_f ev
  refine sem_intro (by decide) rfl (Nat.le_of_ble_eq_true rfl) rfl ?_
  refine aw_aload_n dX9_setsOut_0 rfl ?_
  refine aw_iconst dX9_setsOut_1 (by decide) (by decide) ?_
  refine aw_iaload dX9_setsOut_2 (by first | rfl | assumption) (by omega) (by omega) ?_
  rw [ef]
  refine aw_istore (ls' := [_, _, _, _, _, _, _, _, _, _]) dX9_setsOut_3 (by decide) rfl ?_
  refine aw_iconst dX9_setsOut_5 (by decide) (by decide) ?_
  refine aw_istore (ls' := [_, _, _, _, _, _, _, _, _, _]) dX9_setsOut_6 (by decide) rfl ?_
  refine aw_iconst dX9_setsOut_8 (by decide) (by decide) ?_
  refine aw_istore (ls' := [_, _, _, _, _, _, _, _, _, _]) dX9_setsOut_9 (by decide) rfl ?_
  refine aw_iconst dX9_setsOut_11 (by decide) (by decide) ?_
  refine aw_istore (ls' := [_, _, _, _, _, _, _, _, _, _]) dX9_setsOut_12 (by decide) rfl ?_
  exact aw_less (by repeat' (first | exact trivial | exact rfl | apply And.intro)) (l_setsOut (N := (V 0 0).toNat) sa ha ev hV hb (by omega) (fun hh f g => ⟨rfl, rfl, f, g⟩) (V 0 0).toNat 0 h (by omega) (fun _ _ => rfl) (fun j hj => absurd hj (Nat.not_lt_zero j)))
theorem l_rounds {Q : Option AV → Tp → Mem → Prop} {N : Nat} (sa : (TT e q n L).2.1 a = (20, 53)) (ha : a ≠ 385) (ha2 : a < 1000000) (ev : mV h a 0 = V) (hV : WFv V) (hN : V 0 0 = (N : Int)) (hD : Dn V zz h N) (hr : h a 4 ≤ 100000) (hr0 : 0 ≤ h a 4)
    (hk : ∀ hh, (∀ c, c ≠ a → hh c = h c) → mV hh a 0 = addR (rnd V) 1 → Q (some (vI (chg V N))) (TT e q n L) hh) :
    ∀ (m k : Nat) (hh : Mem), k + m = N → (∀ c, c ≠ a → hh c = h c) → (∀ i : Nat, i < k → hh a (5 + 4 * i + 2) = pag V i) → (∀ j : Int, j < 5 ∨ (j - 5) % 4 ≠ 2 ∨ 5 + 4 * k ≤ j → hh a j = h a j) → 0 ≤ chg V k → chg V k ≤ k → AW M_X9_rounds 0 0 Q 12 [some (vR 373), some (vR a), some (vI (chg V k)), some (vI k)] [] (TT e q n L) hh 0 0 := by
  have v2 := hV.2.1
  intro m
  induction m with
  | zero =>
    intro k hh hi hf g1 g2 c0 c1
    have ek : k = N := by omega
    subst ek
    have ea : hh a 3 = k := by rw [g2 3 (by omega), mA_c ev, hN]
    have e4 : hh a 4 = h a 4 := g2 4 (by omega)
    have fin : mV (am_up hh a 4 (h a 4 + 1)) a 0 = addR (rnd V) 1 := by
      have am : ∀ j : Int, j ≠ 4 → am_up hh a 4 (h a 4 + 1) a j = hh a j := fun j hj => by unfold am_up; rw [if_neg (by omega)]
      refine mV_is (cut_addR (cut_rnd (by rw [← ev]; exact mV_cut))) ?_ ?_ ?_ ?_ ?_ (fun i i0 i1 => ?_)
      · rw [am 3 (by omega), g2 3 (by omega), mA_c ev]; rfl
      · rw [am 0 (by omega), g2 0 (by omega), mA_w ev]; rfl
      · rw [am 1 (by omega), g2 1 (by omega), mA_l ev]; rfl
      · rw [am 2 (by omega), g2 2 (by omega), mA_f ev]; rfl
      · show am_up hh a 4 (h a 4 + 1) a 4 = rnd V 0 4 + 1
        rw [rnd_0, ← mA_r ev]
        unfold am_up
        rw [if_pos ⟨rfl, rfl⟩]
      · have i2 : i < V 0 0 := by rw [addR_0, rnd_0] at i1; exact i1
        rw [am _ (by omega), am _ (by omega), am _ (by omega), am _ (by omega), g2 _ (by omega), g2 _ (by omega), g2 (5 + 4 * i + 3) (by omega), mA1 ev i0 i2, mA2 ev i0 i2, mA4 ev i0 i2]
        refine ⟨rfl, rfl, ?_, rfl⟩
        have := g1 i.toNat (by omega)
        rw [am_nat i0] at this
        rw [this]
        show _ = rnd V 3 i
        unfold rnd
        rw [if_pos ⟨rfl, i0, i2⟩]
    refine aw_iload_n dX9_rounds_12 rfl ?_
    refine aw_aload_n dX9_rounds_13 rfl ?_
    refine aw_iconst dX9_rounds_14 (by decide) (by decide) ?_
    refine aw_iaload dX9_rounds_15 (by first | rfl | assumption) (by omega) (by omega) ?_
    rw [ea]
    refine aw_icmp_ge 70 dX9_rounds_16 rfl (fun c16 => ?_) (fun c16 => ?_)
    · refine aw_aload_n dX9_rounds_70 rfl ?_
      refine aw_iconst dX9_rounds_71 (by decide) (by decide) ?_
      refine aw_dup2 dX9_rounds_72 rfl rfl ?_
      refine aw_iaload dX9_rounds_73 (by first | rfl | assumption) (by omega) (by omega) ?_
      rw [e4]
      refine aw_iconst dX9_rounds_74 (by decide) (by decide) ?_
      refine aw_iadd dX9_rounds_75 (by omega) (by omega) ?_
      refine aw_iastore dX9_rounds_76 (by first | rfl | assumption) (by omega) (by omega) (by omega) ?_
      refine aw_iload_n dX9_rounds_77 rfl ?_
      refine aw_ireturn dX9_rounds_78 rfl (Nat.le_refl _) (Nat.le_refl _) ?_
      exact hk _ (fun c hc => by rw [am_up_ne hc]; exact hf c hc) fin
    · exfalso; omega
  | succ m ih =>
    intro k hh hi hf g1 g2 c0 c1
    have ea : hh a 3 = N := by rw [g2 3 (by omega), mA_c ev, hN]
    have eg : hh a (5 + 4 * k + 2) = V 3 k := by rw [g2 _ (by omega)]; exact mA3 ev (by omega) (by omega)
    have ep : hh 385 (3 * k) = pag V k := by rw [hf 385 (fun z => ha z.symm)]; exact (hD k (by omega)).1
    have z := ih (k + 1)
    have es : chg V (k + 1) = chg V k + (if V 3 k = pag V k then 0 else 1) := rfl
    rw [es] at z
    have nx : (∀ c, c ≠ a → am_up hh a (5 + 4 * k + 2) (pag V k) c = h c) ∧ (∀ i : Nat, i < k + 1 → am_up hh a (5 + 4 * k + 2) (pag V k) a (5 + 4 * i + 2) = pag V i) ∧ (∀ j : Int, j < 5 ∨ (j - 5) % 4 ≠ 2 ∨ 5 + 4 * ((k + 1 : Nat) : Int) ≤ j → am_up hh a (5 + 4 * k + 2) (pag V k) a j = h a j) := by
      refine ⟨fun c hc => by rw [am_up_ne hc]; exact hf c hc, fun i hi2 => ?_, fun j hj => ?_⟩
      · unfold am_up
        by_cases y : i = k
        · subst y; rw [if_pos ⟨rfl, rfl⟩]
        · rw [if_neg (by omega)]; exact g1 i (by omega)
      · unfold am_up
        rw [if_neg (by omega)]
        exact g2 j (by omega)
    refine aw_iload_n dX9_rounds_12 rfl ?_
    refine aw_aload_n dX9_rounds_13 rfl ?_
    refine aw_iconst dX9_rounds_14 (by decide) (by decide) ?_
    refine aw_iaload dX9_rounds_15 (by first | rfl | assumption) (by omega) (by omega) ?_
    rw [ea]
    refine aw_icmp_ge 70 dX9_rounds_16 rfl (fun c16 => ?_) (fun c16 => ?_)
    · exfalso; omega
    · refine aw_iload_n dX9_rounds_19 rfl ?_
      refine aw_aload_n dX9_rounds_20 rfl ?_
      refine aw_iconst dX9_rounds_21 (by decide) (by decide) ?_
      refine aw_iconst dX9_rounds_22 (by decide) (by decide) ?_
      refine aw_iload_n dX9_rounds_23 rfl ?_
      refine aw_imul dX9_rounds_24 (by omega) (by omega) ?_
      refine aw_iadd dX9_rounds_25 (by omega) (by omega) ?_
      refine aw_iconst dX9_rounds_26 (by decide) (by decide) ?_
      refine aw_iadd dX9_rounds_27 (by omega) (by omega) ?_
      refine aw_iaload dX9_rounds_28 (by first | rfl | assumption) (by omega) (by omega) ?_
      rw [eg]
      refine aw_aload_n dX9_rounds_29 rfl ?_
      refine aw_getR1 dX9_rounds_30 fx_RX9_44 (by first | rfl | assumption) (by first | rfl | assumption) ?_
      refine aw_iconst dX9_rounds_33 (by decide) (by decide) ?_
      refine aw_iload_n dX9_rounds_34 rfl ?_
      refine aw_imul dX9_rounds_35 (by omega) (by omega) ?_
      refine aw_iaload dX9_rounds_36 (by first | rfl | assumption) (by omega) (by omega) ?_
      rw [ep]
      refine aw_icmp_eq 44 dX9_rounds_37 rfl (fun c37 => ?_) (fun c37 => ?_)
      · refine aw_iconst dX9_rounds_44 (by decide) (by decide) ?_
        refine aw_iadd dX9_rounds_45 (by omega) (by omega) ?_
        refine aw_istore_n (ls' := [_, _, _, _]) dX9_rounds_46 (by decide) rfl ?_
        refine aw_aload_n dX9_rounds_47 rfl ?_
        refine aw_iconst dX9_rounds_48 (by decide) (by decide) ?_
        refine aw_iconst dX9_rounds_49 (by decide) (by decide) ?_
        refine aw_iload_n dX9_rounds_50 rfl ?_
        refine aw_imul dX9_rounds_51 (by omega) (by omega) ?_
        refine aw_iadd dX9_rounds_52 (by omega) (by omega) ?_
        refine aw_iconst dX9_rounds_53 (by decide) (by decide) ?_
        refine aw_iadd dX9_rounds_54 (by omega) (by omega) ?_
        refine aw_aload_n dX9_rounds_55 rfl ?_
        refine aw_getR1 dX9_rounds_56 fx_RX9_44 (by first | rfl | assumption) (by first | rfl | assumption) ?_
        refine aw_iconst dX9_rounds_59 (by decide) (by decide) ?_
        refine aw_iload_n dX9_rounds_60 rfl ?_
        refine aw_imul dX9_rounds_61 (by omega) (by omega) ?_
        refine aw_iaload dX9_rounds_62 (by first | rfl | assumption) (by omega) (by omega) ?_
        rw [ep]
        refine aw_iastore dX9_rounds_63 (by first | rfl | assumption) (by omega) (by omega) (by omega) ?_
        refine aw_iinc (ls' := [_, _, _, _]) dX9_rounds_64 (by decide) rfl (by omega) (by omega) rfl ?_
        refine aw_goto 12 dX9_rounds_67 rfl ?_
        have z2 := z _ (by omega) nx.1 nx.2.1 nx.2.2
        first | (rw [if_pos (by omega)] at z2; exact aw_less (by repeat' (first | exact trivial | exact rfl | apply And.intro)) (z2 (by omega) (by omega))) | (rw [if_neg (by omega)] at z2; exact aw_less (by repeat' (first | exact trivial | exact rfl | apply And.intro)) (z2 (by omega) (by omega)))
      · refine aw_iconst dX9_rounds_40 (by decide) (by decide) ?_
        refine aw_goto 45 dX9_rounds_41 rfl ?_
        refine aw_iadd dX9_rounds_45 (by omega) (by omega) ?_
        refine aw_istore_n (ls' := [_, _, _, _]) dX9_rounds_46 (by decide) rfl ?_
        refine aw_aload_n dX9_rounds_47 rfl ?_
        refine aw_iconst dX9_rounds_48 (by decide) (by decide) ?_
        refine aw_iconst dX9_rounds_49 (by decide) (by decide) ?_
        refine aw_iload_n dX9_rounds_50 rfl ?_
        refine aw_imul dX9_rounds_51 (by omega) (by omega) ?_
        refine aw_iadd dX9_rounds_52 (by omega) (by omega) ?_
        refine aw_iconst dX9_rounds_53 (by decide) (by decide) ?_
        refine aw_iadd dX9_rounds_54 (by omega) (by omega) ?_
        refine aw_aload_n dX9_rounds_55 rfl ?_
        refine aw_getR1 dX9_rounds_56 fx_RX9_44 (by first | rfl | assumption) (by first | rfl | assumption) ?_
        refine aw_iconst dX9_rounds_59 (by decide) (by decide) ?_
        refine aw_iload_n dX9_rounds_60 rfl ?_
        refine aw_imul dX9_rounds_61 (by omega) (by omega) ?_
        refine aw_iaload dX9_rounds_62 (by first | rfl | assumption) (by omega) (by omega) ?_
        rw [ep]
        refine aw_iastore dX9_rounds_63 (by first | rfl | assumption) (by omega) (by omega) (by omega) ?_
        refine aw_iinc (ls' := [_, _, _, _]) dX9_rounds_64 (by decide) rfl (by omega) (by omega) rfl ?_
        refine aw_goto 12 dX9_rounds_67 rfl ?_
        have z2 := z _ (by omega) nx.1 nx.2.1 nx.2.2
        first | (rw [if_pos (by omega)] at z2; exact aw_less (by repeat' (first | exact trivial | exact rfl | apply And.intro)) (z2 (by omega) (by omega))) | (rw [if_neg (by omega)] at z2; exact aw_less (by repeat' (first | exact trivial | exact rfl | apply And.intro)) (z2 (by omega) (by omega)))
end MO4
