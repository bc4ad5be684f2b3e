/-! chance -/
def sp_chance (σ : ST) (c w : Int) : Int × ST := if s_liv σ 0 0 = 0 then (-1000002, σ) else if c < 0 ∨ 10 < c ∨ w < 0 ∨ 1 < w then (-1000001, σ) else ((if w = 0 then Gs c (s_liv σ 0 0).toNat (s_liv σ) else gB (s_liv σ) (s_liv σ 0 0).toNat) / (Int.gcd (Gs c (s_liv σ 0 0).toNat (s_liv σ)) (gB (s_liv σ) (s_liv σ 0 0).toNat) : Int), σ)
def PCl (sp : Int × ST) (h : Mem) (t : Tp) : Option AV → Tp → Mem → Prop := fun v t' h' => v = some (vL sp.1) ∧ t' = t ∧ CS h' sp.2 ∧ ∀ c, 373 ≤ c → h' c = h c
theorem mulb {x y : Int} (a : 0 ≤ x) (b : x ≤ 1000000000000) (c : 0 ≤ y) (d : y ≤ 10) : -9223372036854775808 ≤ x * y ∧ x * y ≤ 9223372036854775807 := by
  have := Int.mul_nonneg a c
  have := Int.mul_le_mul b d c (by omega)
  omega
section CHA
variable {e q n L : Nat} {h : Mem} {V : VW}
theorem l_gather {Q : Option AV → Tp → Mem → Prop} {N : Nat} (hv : cV h 16 = V) (hN : V 0 0 = (N : Int)) (h12 : N ≤ 12) (hk : ∀ hh : Mem, (∀ c, c ≠ 237 → hh c = h c) → (∀ j : Nat, j < gn V N → hh 237 j = gp V N j) → Q (some (vI (gn V N))) (TT e q n L) hh) :
    ∀ (m k : Nat) (hh : Mem), k + m = N → (∀ c, c ≠ 237 → hh c = h c) → (∀ j : Nat, j < gn V k → hh 237 j = gp V k j) → AW M_X1_gatherGrowing 0 0 Q 4 [some (vR 232), some (vI (gn V k)), some (vI k)] [] (TT e q n L) hh 0 0 := by
  intro m
  induction m with
  | zero =>
    intro k hh hi hf hg
    have ek : k = N := by omega
    subst ek
    have e0 : hh 16 0 = k := by rw [hf 16 (by decide), ← cVc (h := h), hv, hN]
    refine aw_iload_n dX1_gatherGrowing_4 rfl ?_
    refine aw_aload_n dX1_gatherGrowing_5 rfl ?_
    refine aw_getR1 dX1_gatherGrowing_6 fx_RX1_22 (by first | rfl | assumption) (by first | rfl | assumption) ?_
    refine aw_getI dX1_gatherGrowing_9 fx_RX1_55 (by first | rfl | assumption) ?_
    refine aw_icmp_ge 58 dX1_gatherGrowing_12 rfl (fun c12 => ?_) (fun c12 => ?_)
    · refine aw_iload_n dX1_gatherGrowing_58 rfl ?_
      refine aw_ireturn dX1_gatherGrowing_59 rfl (Nat.le_refl _) (Nat.le_refl _) ?_
      exact hk hh hf hg
    · exfalso; omega
  | succ m ih =>
    intro k hh hi hf hg
    have e0 : hh 16 0 = N := by rw [hf 16 (by decide), ← cVc (h := h), hv, hN]
    have e0' : h 16 0 = N := by rw [← cVc (h := h), hv, hN]
    have e1 : hh (16 + 1) k = V 1 k := by rw [hf _ (by decide), ← hv, cV1 (by omega) (by omega)]
    have e2 : hh (16 + 2) k = V 2 k := by rw [hf _ (by decide), ← hv, cV2 (by omega) (by omega)]
    have l1 := gn_le (V := V) k
    have no : ¬ gr V k → gn V (k + 1) = gn V k ∧ gp V (k + 1) = gp V k := fun z => ⟨if_neg z, if_neg z⟩
    have ye : gr V k → gn V (k + 1) = gn V k + 1 ∧ gp V (k + 1) = fun j => if j = gn V k then (k : Int) else gp V k j := fun z => ⟨if_pos z, if_pos z⟩
    have z := ih (k + 1)
    have st : ∀ (hh2 : Mem) (w : Int), w = gn V (k + 1) → (∀ c, c ≠ 237 → hh2 c = h c) → (∀ j : Nat, j < gn V (k + 1) → hh2 237 j = gp V (k + 1) j) → AW M_X1_gatherGrowing 0 0 Q 52 [some (vR 232), some (vI w), some (vI k)] [] (TT e q n L) hh2 0 0 := by
      intro hh2 w ew f2 g2
      subst ew
      refine aw_iinc (ls' := [_, _, _]) dX1_gatherGrowing_52 (by decide) rfl (by omega) (by omega) rfl ?_
      refine aw_goto 4 dX1_gatherGrowing_55 rfl ?_
      exact z hh2 (by omega) f2 g2
    refine aw_iload_n dX1_gatherGrowing_4 rfl ?_
    refine aw_aload_n dX1_gatherGrowing_5 rfl ?_
    refine aw_getR1 dX1_gatherGrowing_6 fx_RX1_22 (by first | rfl | assumption) (by first | rfl | assumption) ?_
    refine aw_getI dX1_gatherGrowing_9 fx_RX1_55 (by first | rfl | assumption) ?_
    refine aw_icmp_ge 58 dX1_gatherGrowing_12 rfl (fun c12 => ?_) (fun c12 => ?_)
    · exfalso; omega
    · refine aw_aload_n dX1_gatherGrowing_15 rfl ?_
      refine aw_getR1 dX1_gatherGrowing_16 fx_RX1_22 (by first | rfl | assumption) (by first | rfl | assumption) ?_
      refine aw_getR1 dX1_gatherGrowing_19 fx_RX1_111 (by first | rfl | assumption) (by first | rfl | assumption) ?_
      refine aw_iload_n dX1_gatherGrowing_22 rfl ?_
      refine aw_iaload dX1_gatherGrowing_23 (by first | rfl | assumption) (by omega) (by omega) ?_
      rw [e1]
      refine aw_iconst dX1_gatherGrowing_24 (by decide) (by decide) ?_
      refine aw_icmp_ne 52 dX1_gatherGrowing_25 rfl (fun c25 => ?_) (fun c25 => ?_)
      · have nn := no (fun y => c25 y.1)
        exact st hh _ (by rw [nn.1]) hf (by rw [nn.1, nn.2]; exact hg)
      · refine aw_aload_n dX1_gatherGrowing_28 rfl ?_
        refine aw_getR1 dX1_gatherGrowing_29 fx_RX1_22 (by first | rfl | assumption) (by first | rfl | assumption) ?_
        refine aw_getR1 dX1_gatherGrowing_32 fx_RX1_59 (by first | rfl | assumption) (by first | rfl | assumption) ?_
        refine aw_iload_n dX1_gatherGrowing_35 rfl ?_
        refine aw_iaload dX1_gatherGrowing_36 (by first | rfl | assumption) (by omega) (by omega) ?_
        rw [e2]
        refine aw_bipush dX1_gatherGrowing_37 (by decide) (by decide) ?_
        refine aw_icmp_ge 52 dX1_gatherGrowing_39 rfl (fun c39 => ?_) (fun c39 => ?_)
        · have nn := no (fun y => by have := y.2; omega)
          exact st hh _ (by rw [nn.1]) hf (by rw [nn.1, nn.2]; exact hg)
        · refine aw_aload_n dX1_gatherGrowing_42 rfl ?_
          refine aw_getR1 dX1_gatherGrowing_43 fx_RX1_18 (by first | rfl | assumption) (by first | rfl | assumption) ?_
          refine aw_iload_n dX1_gatherGrowing_46 rfl ?_
          refine aw_iload_n dX1_gatherGrowing_47 rfl ?_
          refine aw_iastore dX1_gatherGrowing_48 (by first | rfl | assumption) (by omega) (by omega) (by omega) ?_
          refine aw_iinc (ls' := [_, _, _]) dX1_gatherGrowing_49 (by decide) rfl (by omega) (by omega) rfl ?_
          have nn := ye ⟨by omega, by omega⟩
          refine st _ _ (by rw [nn.1]; omega) (fun c hc => by rw [am_up_ne hc]; exact hf c hc) ?_
          rw [nn.1, nn.2]
          intro j hj
          by_cases y : j = gn V k
          · subst y
            simp [am_up]
          · simp only [if_neg y]
            rw [← hg j (by omega)]
            unfold am_up
            rw [if_neg (by omega)]
theorem c_X1_gatherGrowing (hV : WFv (cV h 16)) : Sem M_X1_gatherGrowing [vR 232] (TT e q n L) h 0 0 (fun v t' h' => v = some (vI (gn (cV h 16) (cV h 16 0 0).toNat)) ∧ t' = TT e q n L ∧ (∀ c, c ≠ 237 → h' c = h c) ∧ ∀ j : Nat, j < gn (cV h 16) (cV h 16 0 0).toNat → h' 237 j = gp (cV h 16) (cV h 16 0 0).toNat j) := by
  have v1 := hV.1
  have v2 := hV.2.1
  refine sem_intro (by decide) rfl (Nat.le_of_ble_eq_true rfl) rfl ?_
  refine aw_iconst dX1_gatherGrowing_0 (by decide) (by decide) ?_
  refine aw_istore_n (ls' := [_, _, _]) dX1_gatherGrowing_1 (by decide) rfl ?_
  refine aw_iconst dX1_gatherGrowing_2 (by decide) (by decide) ?_
  refine aw_istore_n (ls' := [_, _, _]) dX1_gatherGrowing_3 (by decide) rfl ?_
  exact l_gather (N := (cV h 16 0 0).toNat) rfl (by omega) (by omega) (fun hh f g => ⟨rfl, rfl, f, g⟩) (cV h 16 0 0).toNat 0 h (by omega) (fun _ _ => rfl) (fun j hj => absurd hj (by show ¬ j < 0; omega))
theorem l_weightOf {Q : Option AV → Tp → Mem → Prop} {t : Tp} {ch w : Nat} {c : Int} (c0 : 0 ≤ c) (c1 : c ≤ 10) (hw : w ≤ 12) (hc : ch < 4096) (hk : Q (some (vL (wt c ch w))) t h) :
    ∀ (m i : Nat), i + m = w → AW M_X1_weightOf 0 0 Q 5 [some (vI ch), some (vI w), some (vI c), some (vL (wt c ch i)), none, some (vI i)] [] t h 0 0 := by
  intro m
  induction m with
  | zero =>
    intro i hi
    have ek : i = w := by omega
    subst ek
    refine aw_iload dX1_weightOf_5 rfl ?_
    refine aw_iload_n dX1_weightOf_7 rfl ?_
    refine aw_icmp_ge 40 dX1_weightOf_8 rfl (fun c8 => ?_) (fun c8 => ?_)
    · refine aw_lload_n dX1_weightOf_40 rfl ?_
      refine aw_lreturn dX1_weightOf_41 rfl (Nat.le_refl _) (Nat.le_refl _) ?_
      exact hk
    · exfalso; omega
  | succ m ih =>
    intro i hi
    have b := wt_b12 (ch := ch) c0 c1 (w := i) (by omega)
    have z := ih (i + 1) (by omega)
    have ew : wt c ch (i + 1) = wt c ch i * (if ch / 2 ^ i % 2 = 1 then c else 10 - c) := rfl
    rw [ew] at z
    have bt := bit_eq (x := ch) (i := i) (by omega) (by omega)
    refine aw_iload dX1_weightOf_5 rfl ?_
    refine aw_iload_n dX1_weightOf_7 rfl ?_
    refine aw_icmp_ge 40 dX1_weightOf_8 rfl (fun c8 => ?_) (fun c8 => ?_)
    · exfalso; omega
    · refine aw_lload_n dX1_weightOf_11 rfl ?_
      refine aw_iload_n dX1_weightOf_12 rfl ?_
      refine aw_iload dX1_weightOf_13 rfl ?_
      refine aw_ishrw dX1_weightOf_15 ?_
      refine aw_iconst dX1_weightOf_16 (by decide) (by decide) ?_
      refine aw_iandw dX1_weightOf_17 ?_
      rw [bt]
      refine aw_iconst dX1_weightOf_18 (by decide) (by decide) ?_
      refine aw_icmp_ne 27 dX1_weightOf_19 rfl (fun c19 => ?_) (fun c19 => ?_)
      · refine aw_bipush dX1_weightOf_27 (by decide) (by decide) ?_
        refine aw_iload_n dX1_weightOf_29 rfl ?_
        refine aw_isub dX1_weightOf_30 (by omega) (by omega) ?_
        refine aw_i2l dX1_weightOf_31 ?_
        refine aw_lmul dX1_weightOf_32 (mulb b.1 b.2 (by omega) (by omega)).1 (mulb b.1 b.2 (by omega) (by omega)).2 ?_
        refine aw_lstore_n (ls' := [_, _, _, _, _, _]) dX1_weightOf_33 (by decide) rfl ?_
        refine aw_iinc (ls' := [_, _, _, _, _, _]) dX1_weightOf_34 (by decide) rfl (by omega) (by omega) rfl ?_
        refine aw_goto 5 dX1_weightOf_37 rfl ?_
        first | (rw [if_pos (by omega)] at z; exact aw_less (by repeat' (first | exact trivial | exact rfl | apply And.intro)) z) | (rw [if_neg (by omega)] at z; exact aw_less (by repeat' (first | exact trivial | exact rfl | apply And.intro)) z)
      · refine aw_iload_n dX1_weightOf_22 rfl ?_
        refine aw_i2l dX1_weightOf_23 ?_
        refine aw_goto 32 dX1_weightOf_24 rfl ?_
        refine aw_lmul dX1_weightOf_32 (mulb b.1 b.2 (by omega) (by omega)).1 (mulb b.1 b.2 (by omega) (by omega)).2 ?_
        refine aw_lstore_n (ls' := [_, _, _, _, _, _]) dX1_weightOf_33 (by decide) rfl ?_
        refine aw_iinc (ls' := [_, _, _, _, _, _]) dX1_weightOf_34 (by decide) rfl (by omega) (by omega) rfl ?_
        refine aw_goto 5 dX1_weightOf_37 rfl ?_
        first | (rw [if_pos (by omega)] at z; exact aw_less (by repeat' (first | exact trivial | exact rfl | apply And.intro)) z) | (rw [if_neg (by omega)] at z; exact aw_less (by repeat' (first | exact trivial | exact rfl | apply And.intro)) z)
theorem c_X1_weightOf {t : Tp} {ch w : Nat} {c : Int} (c0 : 0 ≤ c) (c1 : c ≤ 10) (hw : w ≤ 12) (hc : ch < 4096) : SemE M_X1_weightOf [vI ch, vI w, vI c] t h (some (vL (wt c ch w))) t h := by
  refine sem_intro (by decide) rfl (Nat.le_of_ble_eq_true rfl) rfl ?_
  refine aw_lconst (z := 1) dX1_weightOf_0 (by decide) ?_
  refine aw_lstore_n (ls' := [_, _, _, _, _, _]) dX1_weightOf_1 (by decide) rfl ?_
  refine aw_iconst dX1_weightOf_2 (by decide) (by decide) ?_
  refine aw_istore (ls' := [_, _, _, _, _, _]) dX1_weightOf_3 (by decide) rfl ?_
  exact aw_less (by repeat' (first | exact trivial | exact rfl | apply And.intro)) (l_weightOf c0 c1 hw hc ⟨rfl, rfl, rfl⟩ w 0 (by omega))
theorem l_grown {Q : Option AV → Tp → Mem → Prop} {N ch : Nat} (hV : WFv V) (hN : V 0 0 = (N : Int)) (hc : ch < 4096) (hg : ∀ j : Nat, j < gn V N → h 237 j = gp V N j)
    (hk : ∀ hh : Mem, (∀ c, c ≠ 23 → hh c = h c) → cV hh 21 = gro (gp V N) V ch (gn V N) → AW M_X1_settlesGrown 0 0 Q 46 [some (vR 232), some (vI ch), some (vI (gn V N)), some (vI (gn V N))] [] (TT e q n L) hh 0 0) :
    ∀ (m i : Nat) (hh : Mem), i + m = gn V N → (∀ c, c ≠ 23 → hh c = h c) → cV hh 21 = gro (gp V N) V ch i → AW M_X1_settlesGrown 0 0 Q 13 [some (vR 232), some (vI ch), some (vI (gn V N)), some (vI i)] [] (TT e q n L) hh 0 0 := by
  have v1 := hV.1
  have v2 := hV.2.1
  have gl := gn_le (V := V) N
  intro m
  induction m with
  | zero =>
    intro i hh hi hf hc2
    have ek : i = gn V N := by omega
    subst ek
    refine aw_iload_n dX1_settlesGrown_13 rfl ?_
    refine aw_iload_n dX1_settlesGrown_14 rfl ?_
    refine aw_icmp_ge 46 dX1_settlesGrown_15 rfl (fun c15 => ?_) (fun c15 => ?_)
    · exact hk hh hf hc2
    · exfalso; omega
  | succ m ih =>
    intro i hh hi hf hc2
    obtain ⟨p1, p2⟩ := gp_ok (V := V) N
    obtain ⟨b1, b2, b3⟩ := p1 i (by omega)
    have eg : hh 237 i = gp V N i := by rw [hf 237 (by decide)]; exact hg i (by omega)
    have e0 : hh 21 0 = N := by rw [← cVc (h := hh), hc2, gro_j (by decide), hN]
    have en : gro (gp V N) V ch i 2 (gp V N i) = V 2 (gp V N i) := gro_ne i (fun j hj => by have := p2 j i hj (by omega); omega)
    have ex : hh (21 + 2) (gp V N i) = V 2 (gp V N i) := by rw [← en, ← hc2, cV2 b1 (by omega)]
    have i5 := b3.2
    have i6 := ((hV.2.2.2.2.2.2.2.2 _ b1 (by omega)).2.2.2.1 b3.1).1
    have bt := bit_eq (x := ch) (i := i) (by omega) (by omega)
    have es : gro (gp V N) V ch (i + 1) = setV (gro (gp V N) V ch i) 2 (gp V N i) (V 2 (gp V N i) + ((ch / 2 ^ i % 2 : Nat) : Int)) := by rw [← en]; rfl
    have z := ih (i + 1)
    rw [es] at z
    refine aw_iload_n dX1_settlesGrown_13 rfl ?_
    refine aw_iload_n dX1_settlesGrown_14 rfl ?_
    refine aw_icmp_ge 46 dX1_settlesGrown_15 rfl (fun c15 => ?_) (fun c15 => ?_)
    · exfalso; omega
    · refine aw_aload_n dX1_settlesGrown_18 rfl ?_
      refine aw_getR1 dX1_settlesGrown_19 fx_RX1_26 (by first | rfl | assumption) (by first | rfl | assumption) ?_
      refine aw_getR1 dX1_settlesGrown_22 fx_RX1_59 (by first | rfl | assumption) (by first | rfl | assumption) ?_
      refine aw_aload_n dX1_settlesGrown_25 rfl ?_
      refine aw_getR1 dX1_settlesGrown_26 fx_RX1_18 (by first | rfl | assumption) (by first | rfl | assumption) ?_
      refine aw_iload_n dX1_settlesGrown_29 rfl ?_
      refine aw_iaload dX1_settlesGrown_30 (by first | rfl | assumption) (by omega) (by omega) ?_
      rw [eg]
      refine aw_dup2 dX1_settlesGrown_31 rfl rfl ?_
      refine aw_iaload dX1_settlesGrown_32 (by first | rfl | assumption) (by omega) (by omega) ?_
      rw [ex]
      refine aw_iload_n dX1_settlesGrown_33 rfl ?_
      refine aw_iload_n dX1_settlesGrown_34 rfl ?_
      refine aw_ishrw dX1_settlesGrown_35 ?_
      refine aw_iconst dX1_settlesGrown_36 (by decide) (by decide) ?_
      refine aw_iandw dX1_settlesGrown_37 ?_
      rw [bt]
      refine aw_iadd dX1_settlesGrown_38 (by omega) (by omega) ?_
      refine aw_iastore dX1_settlesGrown_39 (by first | rfl | assumption) (by omega) (by omega) (by omega) ?_
      refine aw_iinc (ls' := [_, _, _, _]) dX1_settlesGrown_40 (by decide) rfl (by omega) (by omega) rfl ?_
      refine aw_goto 13 dX1_settlesGrown_43 rfl ?_
      exact z _ (by omega) (fun c hc => by rw [am_up_ne (by omega)]; exact hf c hc) (by rw [cV_set (by decide) b1 (by omega), hc2])
theorem c_X1_settlesGrown {ch N : Nat} (hv : cV h 16 = V) (hV : WFv V) (hro : RO h) (hN : V 0 0 = (N : Int)) (hc : ch < 4096) (hg : ∀ j : Nat, j < gn V N → h 237 j = gp V N j) : Sem M_X1_settlesGrown [vR 232, vI ch, vI (gn V N)] (TT e q n L) h 0 0 (fun v t' h' => v = some (vI (if okS (gro (gp V N) V ch (gn V N)) = true then 1 else 0)) ∧ t' = TT e q n L ∧ SC h h' ∧ h' 237 = h 237) := by
  have v1 := hV.1
  have v2 := hV.2.1
  have e16 : h 16 0 = V 0 0 := by rw [← cVc (h := h), hv]
  have gw := gro_wf (ch := ch) hV (k := N) (by omega) (gn V N) (Nat.le_refl _)
  have tl : ∀ hh : Mem, (∀ c, c < 21 ∨ 25 < c → hh c = h c) → cV hh 21 = gro (gp V N) V ch (gn V N) → AW M_X1_settlesGrown 0 0 (fun v t' h' => v = some (vI (if okS (gro (gp V N) V ch (gn V N)) = true then 1 else 0)) ∧ t' = TT e q n L ∧ SC h h' ∧ h' 237 = h 237) 46 [some (vR 232), some (vI ch), some (vI (gn V N)), some (vI (gn V N))] [] (TT e q n L) hh 0 0 := by
    intro hh hf hc2
    have e0 : hh 21 0 = V 0 0 := by rw [← cVc (h := hh), hc2, gro_j (by decide)]
    refine aw_aload_n dX1_settlesGrown_46 rfl ?_
    refine aw_getR1 dX1_settlesGrown_47 fx_RX1_26 (by first | rfl | assumption) (by first | rfl | assumption) ?_
    refine aw_v0q dX1_settlesGrown_50 vl_RX1_84 (by first | rfl | assumption) (Nat.le_of_ble_eq_true rfl) (Nat.le_of_ble_eq_true rfl) (Nat.le_of_ble_eq_true rfl) (Nat.le_refl _) (Nat.le_refl _) (c_X7_beginAnew sh_21 (by omega)) ?_
    intro v t' h3 hq
    obtain ⟨rfl, rfl, f3, f4⟩ := hq
    rw [hc2] at f3
    refine aw_aload_n dX1_settlesGrown_53 rfl ?_
    refine aw_getR1 dX1_settlesGrown_54 fx_RX1_29 (by first | rfl | assumption) (by first | rfl | assumption) ?_
    refine aw_aload_n dX1_settlesGrown_57 rfl ?_
    refine aw_getR1 dX1_settlesGrown_58 fx_RX1_26 (by first | rfl | assumption) (by first | rfl | assumption) ?_
    refine aw_iconst dX1_settlesGrown_61 (by decide) (by decide) ?_
    refine aw_v2q dX1_settlesGrown_62 vl_RX1_87 (by first | rfl | assumption) (Nat.le_of_ble_eq_true rfl) (Nat.le_of_ble_eq_true rfl) (Nat.le_of_ble_eq_true rfl) (Nat.le_refl _) (Nat.le_refl _) (c_X6_bringToRest (stop := true) sh_21 isSe (by decide) (fun j j0 j1 => by rw [f4 _ (by decide), hf _ (by decide)]; exact hro j j0 j1) (by rw [f3]; exact bgn_wf gw) rfl) ?_
    intro v t' h4 hq
    obtain ⟨rfl, rfl, p1, p2, p3, p4, p5, p6⟩ := hq
    rw [f3] at p3 p5
    have sc : SC h h4 := fun c hc => by rw [p6 c (by omega) (by omega) (by omega), f4 c (by omega), hf c (by omega)]
    have s7 : h4 237 = h 237 := by rw [p6 237 (by omega) (by omega) (by omega), f4 237 (by omega), hf 237 (by omega)]
    refine aw_aload_n dX1_settlesGrown_65 rfl ?_
    refine aw_getR1 dX1_settlesGrown_66 fx_RX1_29 (by first | rfl | assumption) (by first | rfl | assumption) ?_
    refine aw_getI dX1_settlesGrown_69 fx_RX1_98 (by first | rfl | assumption) ?_
    refine aw_if_ne 89 dX1_settlesGrown_72 rfl (fun c72 => ?_) (fun c72 => ?_)
    · refine aw_iconst dX1_settlesGrown_89 (by decide) (by decide) ?_
      refine aw_zreturn dX1_settlesGrown_90 rfl (Nat.le_refl _) (Nat.le_refl _) (by first | decide | omega) (by first | decide | omega) ?_
      refine ⟨am_ri ?_, rfl, sc, s7⟩
      unfold okS
      rw [← p3]
      generalize (settles true (bgn (gro (gp V N) V ch (gn V N)))).2.2.2.2 = b at p5 ⊢
      cases b <;> simp at p5 ⊢ <;> omega
    · refine aw_aload_n dX1_settlesGrown_75 rfl ?_
      refine aw_getR1 dX1_settlesGrown_76 fx_RX1_29 (by first | rfl | assumption) (by first | rfl | assumption) ?_
      refine aw_getI dX1_settlesGrown_79 fx_RX1_134 (by first | rfl | assumption) ?_
      refine aw_if_eq 89 dX1_settlesGrown_82 rfl (fun c82 => ?_) (fun c82 => ?_)
      · refine aw_iconst dX1_settlesGrown_89 (by decide) (by decide) ?_
        refine aw_zreturn dX1_settlesGrown_90 rfl (Nat.le_refl _) (Nat.le_refl _) (by first | decide | omega) (by first | decide | omega) ?_
        refine ⟨am_ri ?_, rfl, sc, s7⟩
        unfold okS
        rw [← p3]
        generalize (settles true (bgn (gro (gp V N) V ch (gn V N)))).2.2.2.2 = b at p5 ⊢
        cases b <;> simp at p5 ⊢ <;> omega
      · refine aw_iconst dX1_settlesGrown_85 (by decide) (by decide) ?_
        refine aw_goto 90 dX1_settlesGrown_86 rfl ?_
        refine aw_zreturn dX1_settlesGrown_90 rfl (Nat.le_refl _) (Nat.le_refl _) (by first | decide | omega) (by first | decide | omega) ?_
        refine ⟨am_ri ?_, rfl, sc, s7⟩
        unfold okS
        rw [← p3]
        generalize (settles true (bgn (gro (gp V N) V ch (gn V N)))).2.2.2.2 = b at p5 ⊢
        cases b <;> simp at p5 ⊢ <;> omega
  refine sem_intro (by decide) rfl (Nat.le_of_ble_eq_true rfl) rfl ?_
  refine aw_aload_n dX1_settlesGrown_0 rfl ?_
  refine aw_getR1 dX1_settlesGrown_1 fx_RX1_26 (by first | rfl | assumption) (by first | rfl | assumption) ?_
  refine aw_aload_n dX1_settlesGrown_4 rfl ?_
  refine aw_getR1 dX1_settlesGrown_5 fx_RX1_22 (by first | rfl | assumption) (by first | rfl | assumption) ?_
  refine aw_v1q dX1_settlesGrown_8 vl_RX1_36 (by first | rfl | assumption) (Nat.le_of_ble_eq_true rfl) (Nat.le_of_ble_eq_true rfl) (Nat.le_of_ble_eq_true rfl) (Nat.le_refl _) (Nat.le_refl _) (c_X7_takeFrom sh_21 sh_16 (by decide) (by omega)) ?_
  intro v t' h1 hq
  obtain ⟨rfl, rfl, f1, f2⟩ := hq
  rw [hv] at f1
  refine aw_iconst dX1_settlesGrown_11 (by decide) (by decide) ?_
  refine aw_istore_n (ls' := [_, _, _, _]) dX1_settlesGrown_12 (by decide) rfl ?_
  exact l_grown (h := h1) hV hN hc (fun j hj => by rw [f2 237 (by decide)]; exact hg j hj) (fun hh f g => tl hh (fun c hc => by rw [f c (by omega)]; exact f2 c (by omega)) g) (gn V N) 0 h1 (by omega) (fun _ _ => rfl) f1
theorem l_rest {Q : Option AV → Tp → Mem → Prop} {N : Nat} {c : Int} (hv : cV h 16 = V) (hV : WFv V) (hro : RO h) (hN : V 0 0 = (N : Int)) (c0 : 0 ≤ c) (c1 : c ≤ 10) (hg : ∀ j : Nat, j < gn V N → h 237 j = gp V N j)
    (hk : ∀ hh : Mem, SC h hh → Q (some (vL (SF (gF c (gp V N) V (gn V N)) (2 ^ gn V N)))) (TT e q n L) hh) :
    ∀ (m ch : Nat) (hh : Mem), ch + m = 2 ^ gn V N → SC h hh → hh 237 = h 237 → AW M_X1_weightOfRest 0 0 Q 10 [some (vR 232), some (vI c), some (vI (gn V N)), some (vL (SF (gF c (gp V N) V (gn V N)) ch)), none, some (vI ch), none, none] [] (TT e q n L) hh 0 0 := by
  have v2 := hV.2.1
  have gl := gn_le (V := V) N
  have sl := shl1_eq' (w := gn V N) (by omega)
  have p12 : 2 ^ gn V N ≤ 2 ^ 12 := Nat.pow_le_pow_right (by decide) (by omega)
  generalize hP : 2 ^ gn V N = P at *
  intro m
  induction m with
  | zero =>
    intro ch hh hi hf h7
    have ek : ch = P := by omega
    subst ek
    refine aw_iload dX1_weightOfRest_10 rfl ?_
    refine aw_iconst dX1_weightOfRest_12 (by decide) (by decide) ?_
    refine aw_iload_n dX1_weightOfRest_13 rfl ?_
    refine aw_ishlw dX1_weightOfRest_14 ?_
    rw [sl]
    refine aw_icmp_ge 55 dX1_weightOfRest_15 rfl (fun c15 => ?_) (fun c15 => ?_)
    · refine aw_lload_n dX1_weightOfRest_55 rfl ?_
      refine aw_lreturn dX1_weightOfRest_56 rfl (Nat.le_refl _) (Nat.le_refl _) ?_
      exact hk hh hf
    · exfalso; omega
  | succ m ih =>
    intro ch hh hi hf h7
    have b := wt_b12 (ch := ch) c0 c1 (w := gn V N) (by omega)
    have sb := SF_s (F := gF c (gp V N) V (gn V N)) (n := ch) (by omega) (fun i => gF_b c0 c1 (by omega))
    have es : SF (gF c (gp V N) V (gn V N)) (ch + 1) = SF (gF c (gp V N) V (gn V N)) ch + (if okS (gro (gp V N) V ch (gn V N)) = true then wt c ch (gn V N) else 0) := rfl
    have z := ih (ch + 1)
    rw [es] at z
    have eV : cV hh 16 = V := by rw [hf.cV (by decide), hv]
    generalize SF (gF c (gp V N) V (gn V N)) ch = S at *
    have nx : ∀ (h2 : Mem) (x : Int) (y : Option AV), SC h h2 → h2 237 = h 237 → x = S + (if okS (gro (gp V N) V ch (gn V N)) = true then wt c ch (gn V N) else 0) → AW M_X1_weightOfRest 0 0 Q 49 [some (vR 232), some (vI c), some (vI (gn V N)), some (vL x), none, some (vI ch), y, none] [] (TT e q n L) h2 0 0 := by
      intro h2 x y f2 g2 ex
      subst ex
      refine aw_iinc (ls' := [_, _, _, _, _, _, _, _]) dX1_weightOfRest_49 (by decide) rfl (by omega) (by omega) rfl ?_
      refine aw_goto 10 dX1_weightOfRest_52 rfl ?_
      exact aw_less (by repeat' (first | exact trivial | exact rfl | apply And.intro)) (z h2 (by omega) f2 g2)
    refine aw_iload dX1_weightOfRest_10 rfl ?_
    refine aw_iconst dX1_weightOfRest_12 (by decide) (by decide) ?_
    refine aw_iload_n dX1_weightOfRest_13 rfl ?_
    refine aw_ishlw dX1_weightOfRest_14 ?_
    rw [sl]
    refine aw_icmp_ge 55 dX1_weightOfRest_15 rfl (fun c15 => ?_) (fun c15 => ?_)
    · exfalso; omega
    · refine aw_iload dX1_weightOfRest_18 rfl ?_
      refine aw_iload_n dX1_weightOfRest_20 rfl ?_
      refine aw_iload_n dX1_weightOfRest_21 rfl ?_
      refine aw_s3l dX1_weightOfRest_22 sl_RX1_125 (Nat.le_of_ble_eq_true rfl) (Nat.le_of_ble_eq_true rfl) (Nat.le_of_ble_eq_true rfl) (Nat.le_refl _) (Nat.le_refl _) (c_X1_weightOf c0 c1 (by omega) (by omega)) ?_
      refine aw_lstore (ls' := [_, _, _, _, _, _, _, _]) dX1_weightOfRest_25 (by decide) rfl ?_
      refine aw_lload dX1_weightOfRest_27 rfl ?_
      refine aw_lconst (z := 0) dX1_weightOfRest_29 (by decide) ?_
      refine aw_lcmp dX1_weightOfRest_30 ?_
      refine aw_if_le 49 dX1_weightOfRest_31 rfl (fun c31 => ?_) (fun c31 => ?_)
      · refine aw_less (by repeat' (first | exact trivial | exact rfl | apply And.intro)) (nx hh S none hf h7 ?_)
        have w0 : wt c ch (gn V N) = 0 := by
          by_cases y : 0 < wt c ch (gn V N)
          · rw [if_pos y] at c31; omega
          · omega
        rw [w0]; split <;> omega
      · refine aw_aload_n dX1_weightOfRest_34 rfl ?_
        refine aw_iload dX1_weightOfRest_35 rfl ?_
        refine aw_iload_n dX1_weightOfRest_37 rfl ?_
        refine aw_v2q dX1_weightOfRest_38 vl_RX1_129 (by first | rfl | assumption) (Nat.le_of_ble_eq_true rfl) (Nat.le_of_ble_eq_true rfl) (Nat.le_of_ble_eq_true rfl) (Nat.le_refl _) (Nat.le_refl _) (c_X1_settlesGrown (N := N) eV hV (hf.ro hro) hN (by omega) (by rw [h7]; exact hg)) ?_
        intro v t' h3 hq
        obtain ⟨rfl, rfl, f3, f4⟩ := hq
        refine aw_if_eq 49 dX1_weightOfRest_41 rfl (fun c41 => ?_) (fun c41 => ?_)
        · first | (refine aw_less (by repeat' (first | exact trivial | exact rfl | apply And.intro)) (nx h3 _ none (hf.tr f3) (f4.trans h7) ?_); split at c41 <;> (first | omega | (rename_i y; rw [if_pos y]; done) | (rename_i y; rw [if_neg y]; omega)))
        · refine aw_lload_n dX1_weightOfRest_44 rfl ?_
          refine aw_lload dX1_weightOfRest_45 rfl ?_
          refine aw_ladd dX1_weightOfRest_47 (by omega) (by omega) ?_
          refine aw_lstore_n (ls' := [_, _, _, _, _, _, _, _]) dX1_weightOfRest_48 (by decide) rfl ?_
          first | (refine aw_less (by repeat' (first | exact trivial | exact rfl | apply And.intro)) (nx h3 _ none (hf.tr f3) (f4.trans h7) ?_); split at c41 <;> (first | omega | (rename_i y; rw [if_pos y]; done) | (rename_i y; rw [if_neg y]; omega)))
end CHA
