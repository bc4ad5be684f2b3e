theorem frz_0 {V : VW} {H : Nat → Int → Int} {s kp : Nat} {k : Int} : frz V H s kp 0 k = V 0 k := if_neg (by omega)
theorem frz_j {V : VW} {H : Nat → Int → Int} {s kp j : Nat} {k : Int} (hj : j ≠ 4) : frz V H s kp j k = V j k := if_neg (by omega)
theorem cut_frz {V : VW} {H : Nat → Int → Int} {s kp : Nat} (hc : cut V = V) : cut (frz V H s kp) = frz V H s kp := cut_of (fun k hk => by rw [frz_0]; exact cut_z0 hc hk) (fun j k hj hk => by
  rw [frz_0] at hk
  unfold frz
  rw [if_neg (by omega)]
  exact cut_zj hc hj hk)
theorem wdg_w {V : VW} {g g' : Int → Int} {i : Int} (h : 3 < V 1 i) (h5 : V 1 i ≤ 5) : wdg V g i = wdg V g' i := by
  unfold wdg
  by_cases y : V 1 i = 4
  · rw [if_pos y, if_pos y]
  · rw [if_neg y, if_neg y, if_pos (by omega), if_pos (by omega)]
theorem frw_w {V : VW} {H : Nat → Int → Int} {s kp : Nat} {i : Int} (h : 3 < V 1 i) (h5 : V 1 i ≤ 5) : frw V H s kp i = V 4 i := by
  unfold frw
  rw [if_pos (alw_iff.2 (fun k _ => wdg_w h h5))]
section MO8
variable {e q n L : Nat} {h : Mem} {V : VW} {a : Nat} {H : Nat → Int → Int} {s kp : Nat}
set_option maxHeartbeats 4000000 in
theorem l_fz {Q : Option AV → Tp → Mem → Prop} {N F D : Nat} (sa : (TT e q n L).2.1 a = (20, 53)) (ha : a ≠ 387) (ha2 : a < 1000000) (ev : mV h a 0 = V) (hV : WFv V) (hN : V 0 0 = (N : Int)) (hs : kp - s = D) (hD0 : 0 < D) (hD : F + D ≤ 200)
    (hg : ∀ j : Nat, j < D → ∀ i : Int, 0 ≤ i → i < N → h 387 (12 * ((F : Int) + j) + i) = H (s + j) i ∧ 1 ≤ H (s + j) i ∧ H (s + j) i ≤ 98)
    (hk : ∀ hh, (∀ c, c ≠ a → hh c = h c) → mV hh a 0 = frz V H s kp → Q none (TT e q n L) hh) :
    ∀ (m k : Nat) (hh : Mem), k + m = N → (∀ c, c ≠ a → hh c = h c) → (∀ i : Nat, i < k → hh a (5 + 4 * i + 3) = frw V H s kp i) → (∀ j : Int, j < 5 ∨ (j - 5) % 4 ≠ 3 ∨ 5 + 4 * k ≤ j → hh a j = h a j) → AW M_X9_freezes 0 0 Q 3 [some (vR 373), some (vR a), some (vI F), some (vI ((F + D : Nat) : Int)), some (vI k), none, none, none, none, none] [] (TT e q n L) hh 0 0 := by
  have v2 := hV.2.1
  intro m
  induction m with
  | zero =>
    intro k hh hi hf g1 g2
    have ek : k = N := by omega
    subst ek
    have ea : hh a 3 = k := by rw [g2 3 (by omega), mA_c ev, hN]
    have fin : mV hh a 0 = frz V H s kp := by
      refine mV_is (cut_frz (by rw [← ev]; exact mV_cut)) ?_ ?_ ?_ ?_ ?_ (fun i i0 i1 => ?_)
      · rw [g2 3 (by omega), mA_c ev, frz_0]
      · rw [g2 0 (by omega), mA_w ev, frz_0]
      · rw [g2 1 (by omega), mA_l ev, frz_0]
      · rw [g2 2 (by omega), mA_f ev, frz_0]
      · rw [g2 4 (by omega), mA_r ev, frz_0]
      · rw [frz_0] at i1
        have := g1 i.toNat (by omega)
        rw [am_nat i0] at this
        rw [frz_j (by decide), frz_j (by decide), frz_j (by decide), g2 _ (by omega), g2 (5 + 4 * i + 1) (by omega), g2 (5 + 4 * i + 2) (by omega), mA1 ev i0 i1, mA2 ev i0 i1, mA3 ev i0 i1, this]
        refine ⟨rfl, rfl, rfl, ?_⟩
        unfold frz
        rw [if_pos ⟨rfl, i0, i1⟩]
    refine aw_iload dX9_freezes_3 rfl ?_
    refine aw_aload_n dX9_freezes_5 rfl ?_
    refine aw_iconst dX9_freezes_6 (by decide) (by decide) ?_
    refine aw_iaload dX9_freezes_7 (by first | rfl | assumption) (by omega) (by omega) ?_
    rw [ea]
    refine aw_icmp_ge 167 dX9_freezes_8 rfl (fun c8 => ?_) (fun c8 => ?_)
    · refine aw_return dX9_freezes_167 rfl (Nat.le_refl _) (Nat.le_refl _) ?_
      exact hk hh hf fin
    · exfalso; omega
  | succ m ih =>
    intro k hh hi hf g1 g2
    have ea : hh a 3 = N := by rw [g2 3 (by omega), mA_c ev, hN]
    have hkN : (k : Int) < V 0 0 := by omega
    obtain ⟨i1, i2, i3, i4, i5, i6, i7, i8⟩ := hV.2.2.2.2.2.2.2.2 k (by omega) hkN
    have e1 : hh a (5 + 4 * k) = V 1 k := by rw [g2 _ (by omega)]; exact mA1 ev (by omega) hkN
    have e2 : hh a (5 + 4 * k + 1) = V 2 k := by rw [g2 _ (by omega)]; exact mA2 ev (by omega) hkN
    have e4 : hh a (5 + 4 * k + 3) = V 4 k := by rw [g2 _ (by omega)]; exact mA4 ev (by omega) hkN
    have z := ih (k + 1)
    have tl : ∀ (Mo A : Int), ((A ≠ 0 ∧ frw V H s kp k = V 4 k) ∨ (A = 0 ∧ frw V H s kp k = Mo)) → AW M_X9_freezes 0 0 Q 139 [some (vR 373), some (vR a), some (vI F), some (vI ((F + D : Nat) : Int)), some (vI k), some (vI (5 + 4 * k)), some (vI Mo), some (vI A), none, none] [] (TT e q n L) hh 0 0 := by
      intro Mo A hMA
      have st : ∀ x : Int, frw V H s kp k = x → (∀ c, c ≠ a → am_up hh a (5 + 4 * k + 3) x c = h c) ∧ (∀ i : Nat, i < k + 1 → am_up hh a (5 + 4 * k + 3) x a (5 + 4 * i + 3) = frw V H s kp i) ∧ (∀ j : Int, j < 5 ∨ (j - 5) % 4 ≠ 3 ∨ 5 + 4 * ((k + 1 : Nat) : Int) ≤ j → am_up hh a (5 + 4 * k + 3) x a j = h a j) := by
        intro x hx
        refine ⟨fun c hc => by rw [am_up_ne hc]; exact hf c hc, fun i hi2 => ?_, fun j hj => ?_⟩
        · unfold am_up
          by_cases y : i = k
          · subst y; rw [if_pos ⟨rfl, rfl⟩, hx]
          · rw [if_neg (by omega)]; exact g1 i (by omega)
        · unfold am_up
          rw [if_neg (by omega)]
          exact g2 j (by omega)
      refine aw_aload_n dX9_freezes_139 rfl ?_
      refine aw_iload dX9_freezes_140 rfl ?_
      refine aw_iconst dX9_freezes_142 (by decide) (by decide) ?_
      refine aw_iadd dX9_freezes_143 (by omega) (by omega) ?_
      refine aw_iload dX9_freezes_144 rfl ?_
      refine aw_if_eq 158 dX9_freezes_146 rfl (fun c146 => ?_) (fun c146 => ?_)
      · refine aw_iload dX9_freezes_158 rfl ?_
        refine aw_iastore dX9_freezes_160 (by first | rfl | assumption) (by omega) (by omega) (by omega) ?_
        refine aw_iinc (ls' := [_, _, _, _, _, _, _, _, _, _]) dX9_freezes_161 (by decide) rfl (by omega) (by omega) rfl ?_
        refine aw_goto 3 dX9_freezes_164 rfl ?_
        refine aw_less (by repeat' (first | exact trivial | exact rfl | apply And.intro)) (z _ (by omega) (st _ ?_).1 (st _ ?_).2.1 (st _ ?_).2.2) <;> omega
      · refine aw_aload_n dX9_freezes_149 rfl ?_
        refine aw_iload dX9_freezes_150 rfl ?_
        refine aw_iconst dX9_freezes_152 (by decide) (by decide) ?_
        refine aw_iadd dX9_freezes_153 (by omega) (by omega) ?_
        refine aw_iaload dX9_freezes_154 (by first | rfl | assumption) (by omega) (by omega) ?_
        rw [e4]
        refine aw_goto 160 dX9_freezes_155 rfl ?_
        refine aw_iastore dX9_freezes_160 (by first | rfl | assumption) (by omega) (by omega) (by omega) ?_
        refine aw_iinc (ls' := [_, _, _, _, _, _, _, _, _, _]) dX9_freezes_161 (by decide) rfl (by omega) (by omega) rfl ?_
        refine aw_goto 3 dX9_freezes_164 rfl ?_
        refine aw_less (by repeat' (first | exact trivial | exact rfl | apply And.intro)) (z _ (by omega) (st _ ?_).1 (st _ ?_).2.1 (st _ ?_).2.2) <;> omega
    by_cases hw : V 1 k ≤ 3
    · obtain ⟨n0, n1⟩ := i3 hw
      have hh7 : hh 387 = h 387 := hf 387 (fun y => ha y.symm)
      have inn := l_fzIn (e := e) (q := q) (n := n) (L := L) (Q := Q) (h := hh) (V := V) (a := a) (k := k) (F := F) (D := D) (f := fun j => wdg V (H (s + j)) k) sa hw (by omega) e1 e2 e4 n0 (by omega) i7 i8 hD (fun j hj => by rw [hh7, (hg j hj _ n0 (by omega)).1]; have := hg j hj _ n0 (by omega); omega) (fun j hj => by
        rw [hh7, (hg j hj _ n0 (by omega)).1]
        show wdg V (H (s + j)) k = _
        unfold wdg
        rw [if_neg (by omega), if_neg (by omega)]) (tl _ _ (by
          have efr : frw V H s kp k = if alw (fun j => wdg V (H (s + j)) k) D = true then V 4 k else mxw (fun j => wdg V (H (s + j)) k) D := by unfold frw; rw [hs]
          rw [efr]
          by_cases y : alw (fun j => wdg V (H (s + j)) k) D = true
          · rw [if_pos y, if_pos y]; exact Or.inl ⟨by decide, rfl⟩
          · rw [if_neg y, if_neg y]; exact Or.inr ⟨rfl, rfl⟩)) D 0 (by omega) (by show (0 : Int) ≤ 0; decide) (by show (0 : Int) ≤ 20; decide)
      refine aw_iload dX9_freezes_3 rfl ?_
      refine aw_aload_n dX9_freezes_5 rfl ?_
      refine aw_iconst dX9_freezes_6 (by decide) (by decide) ?_
      refine aw_iaload dX9_freezes_7 (by first | rfl | assumption) (by omega) (by omega) ?_
      rw [ea]
      refine aw_icmp_ge 167 dX9_freezes_8 rfl (fun c8 => ?_) (fun c8 => ?_)
      · exfalso; omega
      · refine aw_iconst dX9_freezes_11 (by decide) (by decide) ?_
        refine aw_iconst dX9_freezes_12 (by decide) (by decide) ?_
        refine aw_iload dX9_freezes_13 rfl ?_
        refine aw_imul dX9_freezes_15 (by omega) (by omega) ?_
        refine aw_iadd dX9_freezes_16 (by omega) (by omega) ?_
        refine aw_istore (ls' := [_, _, _, _, _, _, _, _, _, _]) dX9_freezes_17 (by decide) rfl ?_
        refine aw_iconst dX9_freezes_19 (by decide) (by decide) ?_
        refine aw_istore (ls' := [_, _, _, _, _, _, _, _, _, _]) dX9_freezes_20 (by decide) rfl ?_
        refine aw_iconst dX9_freezes_22 (by decide) (by decide) ?_
        refine aw_istore (ls' := [_, _, _, _, _, _, _, _, _, _]) dX9_freezes_23 (by decide) rfl ?_
        refine aw_iload_n dX9_freezes_25 rfl ?_
        refine aw_istore (ls' := [_, _, _, _, _, _, _, _, _, _]) dX9_freezes_26 (by decide) rfl ?_
        exact aw_less (by repeat' (first | exact trivial | exact rfl | apply And.intro)) inn
    · have fr := frw_w (H := H) (s := s) (kp := kp) (show 3 < V 1 k by omega) i2
      refine aw_iload dX9_freezes_3 rfl ?_
      refine aw_aload_n dX9_freezes_5 rfl ?_
      refine aw_iconst dX9_freezes_6 (by decide) (by decide) ?_
      refine aw_iaload dX9_freezes_7 (by first | rfl | assumption) (by omega) (by omega) ?_
      rw [ea]
      refine aw_icmp_ge 167 dX9_freezes_8 rfl (fun c8 => ?_) (fun c8 => ?_)
      · exfalso; omega
      · refine aw_iconst dX9_freezes_11 (by decide) (by decide) ?_
        refine aw_iconst dX9_freezes_12 (by decide) (by decide) ?_
        refine aw_iload dX9_freezes_13 rfl ?_
        refine aw_imul dX9_freezes_15 (by omega) (by omega) ?_
        refine aw_iadd dX9_freezes_16 (by omega) (by omega) ?_
        refine aw_istore (ls' := [_, _, _, _, _, _, _, _, _, _]) dX9_freezes_17 (by decide) rfl ?_
        refine aw_iconst dX9_freezes_19 (by decide) (by decide) ?_
        refine aw_istore (ls' := [_, _, _, _, _, _, _, _, _, _]) dX9_freezes_20 (by decide) rfl ?_
        refine aw_iconst dX9_freezes_22 (by decide) (by decide) ?_
        refine aw_istore (ls' := [_, _, _, _, _, _, _, _, _, _]) dX9_freezes_23 (by decide) rfl ?_
        refine aw_iload_n dX9_freezes_25 rfl ?_
        refine aw_istore (ls' := [_, _, _, _, _, _, _, _, _, _]) dX9_freezes_26 (by decide) rfl ?_
        refine aw_iload dX9_freezes_28 rfl ?_
        refine aw_iload_n dX9_freezes_30 rfl ?_
        refine aw_icmp_ge 139 dX9_freezes_31 rfl (fun c31 => ?_) (fun c31 => ?_)
        · exfalso; omega
        · refine aw_aload_n dX9_freezes_34 rfl ?_
          refine aw_iload dX9_freezes_35 rfl ?_
          refine aw_iaload dX9_freezes_37 (by first | rfl | assumption) (by omega) (by omega) ?_
          rw [e1]
          refine aw_iconst dX9_freezes_38 (by decide) (by decide) ?_
          refine aw_icmp_gt 139 dX9_freezes_39 rfl (fun c39 => ?_) (fun c39 => ?_)
          · exact aw_less (by repeat' (first | exact trivial | exact rfl | apply And.intro)) (tl 0 1 (Or.inl ⟨by decide, fr⟩))
          · exfalso; omega
theorem c_X9_freezes {F D : Nat} (sa : (TT e q n L).2.1 a = (20, 53)) (ha : a ≠ 387) (ha2 : a < 1000000) (ev : mV h a 0 = V) (hV : WFv V) (hs : kp - s = D) (hD0 : 0 < D) (hD : F + D ≤ 200)
    (hg : ∀ j : Nat, j < D → ∀ i : Int, 0 ≤ i → i < V 0 0 → h 387 (12 * ((F : Int) + j) + i) = H (s + j) i ∧ 1 ≤ H (s + j) i ∧ H (s + j) i ≤ 98) : Sem M_X9_freezes [vR 373, vR a, vI F, vI ((F + D : Nat) : Int)] (TT e q n L) h 0 0 (fun v t' h' => v = none ∧ t' = TT e q n L ∧ mV h' a 0 = frz V H s kp ∧ ∀ c, c ≠ a → h' c = h c) := by
  have v1 := hV.1
  refine sem_intro (by decide) rfl (Nat.le_of_ble_eq_true rfl) rfl ?_
  refine aw_iconst dX9_freezes_0 (by decide) (by decide) ?_
  refine aw_istore (ls' := [_, _, _, _, _, _, _, _, _, _]) dX9_freezes_1 (by decide) rfl ?_
  exact l_fz (N := (V 0 0).toNat) sa ha ha2 ev hV (by omega) hs hD0 hD (fun j hj i i0 i1 => hg j hj i i0 (by omega)) (fun hh f g => ⟨rfl, rfl, g, f⟩) (V 0 0).toNat 0 h (by omega) (fun _ _ => rfl) (fun i hi => absurd hi (Nat.not_lt_zero i)) (fun _ _ => rfl)
end MO8
