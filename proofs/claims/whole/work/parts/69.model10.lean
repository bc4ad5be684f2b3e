theorem addR_4 {V : VW} {r : Int} : addR V r 0 4 = V 0 4 + r := if_pos ⟨rfl, rfl⟩
section MOA
variable {e q n L : Nat} {h : Mem} {a : Nat}
/-- nothing but the sheet, the places, the guesses and what is counted -/
def FM (a : Nat) (h h' : Mem) : Prop := (∀ c, c ≠ a → c ≠ 373 → c ≠ 385 → c ≠ 387 → h' c = h c) ∧ ∀ k : Int, k < 23 ∨ 25 < k → h' 373 k = h 373 k
theorem FM.rf : FM a h h := ⟨fun _ _ _ _ _ => rfl, fun _ _ => rfl⟩
theorem FM.tr {h1 h2 : Mem} (x : FM a h h1) (y : FM a h1 h2) : FM a h h2 := ⟨fun c c1 c2 c3 c4 => (y.1 c c1 c2 c3 c4).trans (x.1 c c1 c2 c3 c4), fun k hk => (y.2 k hk).trans (x.2 k hk)⟩
set_option maxHeartbeats 8000000 in
theorem l_settles {Q : Option AV → Tp → Mem → Prop} {R : SR5} (sa : (TT e q n L).2.1 a = (20, 53)) (a1 : a = 379 ∨ a = 380 ∨ a = 381)
    (hk : ∀ hh, mV hh a 0 = addR R.1 R.2.1 → hh 373 23 = R.2.1 → hh 373 24 = R.2.2.1 → hh 373 25 = R.2.2.2.1 → FM a h hh → Q none (TT e q n L) hh) :
    ∀ (nn : Nat) (V : VW) (H : Nat → Int → Int) (kp F : Nat) (f g : Int) (hh : Mem), F + kp + nn = 200 → WFv V → 0 ≤ V 0 4 → V 0 4 ≤ 10000 → mV hh a 0 = addR V ((F + kp : Nat) : Int) → hh 373 23 = ((F + kp : Nat) : Int) → hh 373 24 = f → hh 373 25 = g → 0 ≤ f → f ≤ F + kp → (f = 0 → g = 0) → (f ≠ 0 → g ≠ 0) →
      (∀ s : Nat, s ≤ kp → ∀ i : Int, 0 ≤ i → i < V 0 0 → hh 387 (12 * ((F : Int) + s) + i) = hup H kp (V 3) s i) → (∀ s : Nat, s < kp → ∀ i : Int, 0 ≤ i → i < V 0 0 → 1 ≤ H s i ∧ H s i ≤ 98) → FM a h hh → strun false nn V H kp ((F + kp : Nat) : Int) f g = R →
      AW M_X9_settles 0 0 Q 23 [some (vR 373), some (vR a), some (vI F), none, none] [] (TT e q n L) hh 0 0 := by
  intro nn
  induction nn with
  | zero =>
    intro V H kp F f g hh hn hV r0 r1 ev w1 w2 w3 f0 f1 fg fg2 hG hH hf hR
    subst hR
    refine aw_aload_n dX9_settles_23 rfl ?_
    refine aw_getI dX9_settles_24 fx_RX9_166 (by first | rfl | assumption) ?_
    refine aw_sipush dX9_settles_27 (by decide) (by decide) ?_
    rw [w1]
    refine aw_icmp_ge 164 dX9_settles_30 rfl (fun c30 => ?_) (fun c30 => ?_)
    · refine aw_return dX9_settles_164 rfl (Nat.le_refl _) (Nat.le_refl _) ?_
      exact hk hh ev w1 w2 w3 hf
    · exfalso; omega
  | succ nn ih =>
    intro V H kp F f g hh hn hV r0 r1 ev w1 w2 w3 f0 f1 fg fg2 hG hH hf hR
    have v1 := hV.1
    have v2 := hV.2.1
    have nH : ∀ s : Nat, s < kp + 1 → ∀ i : Int, 0 ≤ i → i < V 0 0 → 1 ≤ hup H kp (V 3) s i ∧ hup H kp (V 3) s i ≤ 98 := by
      intro s hs i i0 i1
      obtain ⟨-, -, -, -, j5, j6, -, -⟩ := hV.2.2.2.2.2.2.2.2 i i0 i1
      by_cases y : s = kp
      · subst y; rw [hup_at]; exact ⟨j5, j6⟩
      · rw [hup_ne y]; exact hH s (by omega) i i0 i1
    have wR := rnd_wf hV
    have tl : ∀ (h2 : Mem), stl V = false → mV h2 a 0 = addR (rnd V) ((F + kp + 1 : Nat) : Int) → h2 373 23 = ((F + kp + 1 : Nat) : Int) → h2 373 24 = f → h2 373 25 = g → h2 387 = hh 387 → FM a h h2 → AW M_X9_settles 0 0 Q 57 [some (vR 373), some (vR a), some (vI F), none, none] [] (TT e q n L) h2 0 0 := by
      intro h2 hst ev2 u1 u2 u3 u7 uf
      have cR : cut (addR (rnd V) ((F + kp + 1 : Nat) : Int)) = addR (rnd V) ((F + kp + 1 : Nat) : Int) := by rw [← ev2]; exact mV_cut
      have eF : find (addR (rnd V) ((F + kp + 1 : Nat) : Int) 3) (fun s i => h2 387 (12 * ((F : Int) + s) + i)) (V 0 0).toNat kp = find (rnd V 3) (hup H kp (V 3)) (V 0 0).toNat kp := by
        rw [addR_j (j := 3) (by decide), u7]
        exact find_congr kp (fun _ _ => rfl) (fun s hs i hi => hG s (by omega) i (by omega) (by omega))
      have fb := find_bd (f := rnd V 3) (H := hup H kp (V 3)) (cnt := (V 0 0).toNat) kp
      unfold strun at hR
      rw [if_neg (by rw [hst]; decide)] at hR
      have go : AW M_X9_settles 0 0 Q 97 [some (vR 373), some (vR a), some (vI F), some (vI (smS F (find (rnd V 3) (hup H kp (V 3)) (V 0 0).toNat kp))), none] [] (TT e q n L) h2 0 0 := by
        obtain ⟨fd, hfd⟩ : ∃ fd, fd = find (rnd V 3) (hup H kp (V 3)) (V 0 0).toNat kp := ⟨_, rfl⟩
        rw [← hfd] at hR fb ⊢
        have body : ∀ h3 : Mem, (∀ c, c ≠ 387 → h3 c = h2 c) → (∀ s : Nat, s ≤ kp → ∀ i : Int, 0 ≤ i → i < V 0 0 → h3 387 (12 * ((F : Int) + s) + i) = hup H kp (V 3) s i) → (∀ i : Int, 0 ≤ i → i < V 0 0 → h3 387 (12 * ((F + kp + 1 : Nat) : Int) + i) = rnd V 3 i) → AW M_X9_settles 0 0 Q 106 [some (vR 373), some (vR a), some (vI F), some (vI (smS F fd)), none] [] (TT e q n L) h3 0 0 := by
          intro h3 k1 gs gn
          have ev3 : mV h3 a 0 = addR (rnd V) ((F + kp + 1 : Nat) : Int) := by unfold mV mS; rw [k1 a (by omega)]; exact ev2
          have x1 : h3 373 23 = ((F + kp + 1 : Nat) : Int) := by rw [k1 373 (by decide)]; exact u1
          have x2 : h3 373 24 = f := by rw [k1 373 (by decide)]; exact u2
          have x3 : h3 373 25 = g := by rw [k1 373 (by decide)]; exact u3
          have xf : FM a h h3 := ⟨fun c y1 y2 y3 y4 => by rw [k1 c y4]; exact uf.1 c y1 y2 y3 y4, fun k hk2 => by rw [k1 373 (by decide)]; exact uf.2 k hk2⟩
          by_cases hd : fd = -1
          · rw [if_pos hd] at hR
            have es : smS (F : Int) fd = -1000000 := if_pos hd
            have z := ih (rnd V) (hup H kp (V 3)) (kp + 1) F f g h3 (by omega) wR (by rw [rnd_0]; exact r0) (by rw [rnd_0]; exact r1) ev3 x1 x2 x3 f0 (by omega) fg fg2 (fun s hs i i0 i1 => by
              rw [rnd_0] at i1
              by_cases y : s = kp + 1
              · subst y
                rw [hup_at]
                exact gn i i0 i1
              · rw [hup_ne y]
                exact gs s (by omega) i i0 i1) (fun s hs i i0 i1 => nH s hs i i0 (by rw [rnd_0] at i1; exact i1)) xf hR
            rw [es]
            refine aw_iload_n dX9_settles_106 rfl ?_
            refine aw_ldc (n := -1000000) dX9_settles_107 kc_RX9_56 (by decide) ?_
            refine aw_icmp_eq 161 dX9_settles_109 rfl (fun c109 => ?_) (fun c109 => ?_)
            · refine aw_goto 23 dX9_settles_161 rfl ?_
              exact aw_less (by repeat' (first | exact trivial | exact rfl | apply And.intro)) z
            · exfalso; omega
          · rw [if_neg hd, if_neg (by decide)] at hR
            have es : smS (F : Int) fd = F + fd := if_neg hd
            obtain ⟨s0, hs0⟩ : ∃ s0 : Nat, fd = (s0 : Int) := ⟨fd.toNat, by omega⟩
            subst hs0
            rw [es]
            have es2 : (F : Int) + (s0 : Int) = ((F + s0 : Nat) : Int) := rfl
            have es3 : ((F + kp + 1 : Nat) : Int) = ((F + s0 + (kp + 1 - s0) : Nat) : Int) := by omega
            rw [Int.toNat_natCast] at hR
            have t46 : ∀ (g' : Int) (h4 : Mem), (∀ c, c ≠ 373 → h4 c = h3 c) → h4 373 23 = ((F + kp + 1 : Nat) : Int) → h4 373 24 = f + 1 → h4 373 25 = g' → FM a h h4 → g' = (if f + 1 = 1 then (kp : Int) + 1 - s0 else g) → AW M_X9_settles 0 0 Q 146 [some (vR 373), some (vR a), some (vI F), some (vI ((F + s0 : Nat) : Int)), none] [] (TT e q n L) h4 0 0 := by
              intro g' h4 y1 y2 y3 y4 yf hg'
              have ev4 : mV h4 a 0 = addR (rnd V) ((F + kp + 1 : Nat) : Int) := by unfold mV mS; rw [y1 a (by omega)]; exact ev3
              have wF : WFv (frz (rnd V) (hup H kp (V 3)) s0 (kp + 1)) := frz_wf wR (fun k hk2 i i0 i1 => nH k hk2 i i0 (by rw [rnd_0] at i1; exact i1))
              rw [← hg'] at hR
              have g0 : g' ≠ 0 := by
                rw [hg']
                split
                · omega
                · exact fg2 (by omega)
              refine aw_aload_n dX9_settles_146 rfl ?_
              refine aw_aload_n dX9_settles_147 rfl ?_
              refine aw_iload_n dX9_settles_148 rfl ?_
              refine aw_aload_n dX9_settles_149 rfl ?_
              refine aw_getI dX9_settles_150 fx_RX9_166 (by first | rfl | assumption) ?_
              rw [y2, es3]
              refine aw_v3q dX9_settles_153 vl_RX9_189 (by first | rfl | assumption) (Nat.le_of_ble_eq_true rfl) (Nat.le_of_ble_eq_true rfl) (Nat.le_of_ble_eq_true rfl) (Nat.le_refl _) (Nat.le_refl _) (c_X9_freezes (V := addR (rnd V) ((F + kp + 1 : Nat) : Int)) (H := hup H kp (V 3)) (s := s0) (kp := kp + 1) (F := F + s0) (D := kp + 1 - s0) sa (by omega) (by omega) ev4 (addR_wf wR) rfl (by omega) (by omega) (fun j hj i i0 i1 => by rw [addR_0, rnd_0] at i1; rw [y1 387 (by decide), show 12 * (((F + s0 : Nat) : Int) + (j : Int)) + i = 12 * ((F : Int) + ((s0 + j : Nat) : Int)) + i by omega]; exact ⟨gs (s0 + j) (by omega) i i0 i1, nH (s0 + j) (by omega) i i0 i1⟩)) ?_
              intro v t' h5 hq
              obtain ⟨rfl, rfl, ev5, k5⟩ := hq
              rw [frzA] at ev5
              have z5 : h5 373 = h4 373 := k5 373 (by omega)
              refine aw_aload_n dX9_settles_156 rfl ?_
              refine aw_getI dX9_settles_157 fx_RX9_166 (by first | rfl | assumption) ?_
              rw [z5, y2]
              refine aw_istore_n (ls' := [_, _, _, _, _]) dX9_settles_160 (by decide) rfl ?_
              refine aw_goto 23 dX9_settles_161 rfl ?_
              refine aw_less (by repeat' (first | exact trivial | exact rfl | apply And.intro)) (ih (frz (rnd V) (hup H kp (V 3)) s0 (kp + 1)) (fun _ _ => 0) 0 (F + kp + 1) (f + 1) g' h5 (by omega) wF (by rw [frz_0, rnd_0]; exact r0) (by rw [frz_0, rnd_0]; exact r1) ev5 (by rw [z5]; exact y2) (by rw [z5]; exact y3) (by rw [z5]; exact y4) (by omega) (by omega) (fun y => absurd y (by omega)) (fun _ => g0) (fun s hs i i0 i1 => ?_) (fun s hs => absurd hs (Nat.not_lt_zero s)) ?_ hR)
              · rw [frz_0, rnd_0] at i1
                have hs2 : s = 0 := by omega
                subst hs2
                rw [hup_at, frz_j (by decide), k5 387 (by omega), y1 387 (by decide)]
                exact gn i i0 i1
              · exact ⟨fun c q1 q2 q3 q4 => by rw [k5 c q1]; exact yf.1 c q1 q2 q3 q4, fun k hk2 => by rw [z5]; exact yf.2 k hk2⟩
            rw [es2]
            have fin4 : ∀ g' : Int, (∀ c, c ≠ 373 → am_up (am_up h3 373 24 (f + 1)) 373 25 g' c = h3 c) ∧ am_up (am_up h3 373 24 (f + 1)) 373 25 g' 373 23 = ((F + kp + 1 : Nat) : Int) ∧ am_up (am_up h3 373 24 (f + 1)) 373 25 g' 373 24 = f + 1 ∧ am_up (am_up h3 373 24 (f + 1)) 373 25 g' 373 25 = g' ∧ FM a h (am_up (am_up h3 373 24 (f + 1)) 373 25 g') := fun g' => ⟨fun c hc => by rw [am_up_ne hc, am_up_ne hc], by simp [am_up]; exact x1, by simp [am_up], by simp [am_up], fun c q1 q2 q3 q4 => by rw [am_up_ne q2, am_up_ne q2]; exact xf.1 c q1 q2 q3 q4, fun k hk2 => by
              rw [← xf.2 k hk2]
              unfold am_up
              rw [if_neg (by omega), if_neg (by omega)]⟩
            have r24 : ∀ y : Int, am_up h3 373 24 y 373 25 = g := fun y => by simp [am_up]; exact x3
            have r23 : ∀ y : Int, am_up h3 373 24 y 373 23 = ((F + kp + 1 : Nat) : Int) := fun y => by simp [am_up]; exact x1
            refine aw_iload_n dX9_settles_106 rfl ?_
            refine aw_ldc (n := -1000000) dX9_settles_107 kc_RX9_56 (by decide) ?_
            refine aw_icmp_eq 161 dX9_settles_109 rfl (fun c109 => ?_) (fun c109 => ?_)
            · exfalso; omega
            · refine aw_aload_n dX9_settles_112 rfl ?_
              refine aw_dup dX9_settles_113 rfl ?_
              refine aw_getI dX9_settles_114 fx_RX9_169 (by first | rfl | assumption) ?_
              rw [x2]
              refine aw_iconst dX9_settles_117 (by decide) (by decide) ?_
              refine aw_iadd dX9_settles_118 (by omega) (by omega) ?_
              refine aw_putI dX9_settles_119 fp_RX9_169 (by first | rfl | assumption) ?_
              refine aw_aload_n dX9_settles_122 rfl ?_
              refine aw_aload_n dX9_settles_123 rfl ?_
              refine aw_getI dX9_settles_124 fx_RX9_172 (by first | rfl | assumption) ?_
              rw [r24]
              refine aw_if_ne 139 dX9_settles_127 rfl (fun c127 => ?_) (fun c127 => ?_)
              · refine aw_aload_n dX9_settles_139 rfl ?_
                refine aw_getI dX9_settles_140 fx_RX9_172 (by first | rfl | assumption) ?_
                try rw [r24]
                refine aw_putI dX9_settles_143 fp_RX9_172 (by first | rfl | assumption) ?_
                obtain ⟨q1, q2, q3, q4, q5⟩ := fin4 _
                refine aw_less (by repeat' (first | exact trivial | exact rfl | apply And.intro)) (t46 _ _ q1 q2 q3 q4 q5 ?_)
                first | (rw [if_pos (by omega)]; omega) | (rw [if_neg (by omega)]; done)
              · refine aw_aload_n dX9_settles_130 rfl ?_
                refine aw_getI dX9_settles_131 fx_RX9_166 (by first | rfl | assumption) ?_
                rw [r23]
                refine aw_iload_n dX9_settles_134 rfl ?_
                refine aw_isub dX9_settles_135 (by omega) (by omega) ?_
                refine aw_goto 143 dX9_settles_136 rfl ?_
                try rw [r24]
                refine aw_putI dX9_settles_143 fp_RX9_172 (by first | rfl | assumption) ?_
                obtain ⟨q1, q2, q3, q4, q5⟩ := fin4 _
                refine aw_less (by repeat' (first | exact trivial | exact rfl | apply And.intro)) (t46 _ _ q1 q2 q3 q4 q5 ?_)
                first | (rw [if_pos (by omega)]; omega) | (rw [if_neg (by omega)]; done)
        refine aw_aload_n dX9_settles_97 rfl ?_
        refine aw_aload_n dX9_settles_98 rfl ?_
        refine aw_aload_n dX9_settles_99 rfl ?_
        refine aw_getI dX9_settles_100 fx_RX9_166 (by first | rfl | assumption) ?_
        rw [u1]
        refine aw_v2q dX9_settles_103 vl_RX9_175 (by first | rfl | assumption) (Nat.le_of_ble_eq_true rfl) (Nat.le_of_ble_eq_true rfl) (Nat.le_of_ble_eq_true rfl) (Nat.le_refl _) (Nat.le_refl _) (c_X9_keepsGuesses (N := (V 0 0).toNat) sa (by omega) ev2 (by rw [addR_0, rnd_0]; exact v2) (by rw [addR_0, rnd_0]; omega) (by omega) (by omega)) ?_
        intro v t' h3 hq
        obtain ⟨rfl, rfl, k1, k2, k3⟩ := hq
        refine aw_less (by repeat' (first | exact trivial | exact rfl | apply And.intro)) (body h3 k1 (fun s hs i i0 i1 => ?_) (fun i i0 i1 => ?_))
        · rw [k3 _ (by omega), u7]
          exact hG s hs i i0 i1
        · have := k2 i.toNat (by omega)
          rw [am_nat i0, addR_j (j := 3) (by decide)] at this
          exact this
      have z := l_same (e := e) (q := q) (n := n) (L := L) (Q := Q) (h := h2) (V := addR (rnd V) ((F + kp + 1 : Nat) : Int)) (a := a) (N := (V 0 0).toNat) (F := F) (kp := kp) sa ev2 (by rw [addR_0, rnd_0]; exact v2) (by rw [addR_0, rnd_0]; omega) (by rw [u1]; omega) (by omega) (by rw [eF]; exact go) kp 0 (by omega)
      refine aw_ldc (n := -1000000) dX9_settles_57 kc_RX9_56 (by decide) ?_
      refine aw_istore_n (ls' := [_, _, _, _, _]) dX9_settles_59 (by decide) rfl ?_
      refine aw_iload_n dX9_settles_60 rfl ?_
      refine aw_istore (ls' := [_, _, _, _, _]) dX9_settles_61 (by decide) rfl ?_
      exact aw_less (by repeat' (first | exact trivial | exact rfl | apply And.intro)) z
    have ne : a ≠ 385 := by omega
    have ne2 : a ≠ 373 := by omega
    refine aw_aload_n dX9_settles_23 rfl ?_
    refine aw_getI dX9_settles_24 fx_RX9_166 (by first | rfl | assumption) ?_
    refine aw_sipush dX9_settles_27 (by decide) (by decide) ?_
    rw [w1]
    refine aw_icmp_ge 164 dX9_settles_30 rfl (fun c30 => ?_) (fun c30 => ?_)
    · exfalso; omega
    · refine aw_aload_n dX9_settles_33 rfl ?_
      refine aw_aload_n dX9_settles_34 rfl ?_
      refine aw_v1q dX9_settles_35 vl_RX9_179 (by first | rfl | assumption) (Nat.le_of_ble_eq_true rfl) (Nat.le_of_ble_eq_true rfl) (Nat.le_of_ble_eq_true rfl) (Nat.le_refl _) (Nat.le_refl _) (c_X9_isSettled sa ne ev (addR_wf hV)) ?_
      intro v t' h1 hq
      obtain ⟨rfl, rfl, f1⟩ := hq
      rw [stlA]
      have ev1 : mV h1 a 0 = addR V ((F + kp : Nat) : Int) := by unfold mV mS; rw [f1 a ne]; exact ev
      refine aw_if_ne 164 dX9_settles_38 rfl (fun c38 => ?_) (fun c38 => ?_)
      · refine aw_return dX9_settles_164 rfl (Nat.le_refl _) (Nat.le_refl _) ?_
        have hst := b_t c38
        unfold strun at hR
        rw [if_pos hst] at hR
        subst hR
        exact hk h1 ev1 (by rw [f1 373 (by decide)]; exact w1) (by rw [f1 373 (by decide)]; exact w2) (by rw [f1 373 (by decide)]; exact w3) ⟨fun c x1 x2 x3 x4 => by rw [f1 c x3]; exact hf.1 c x1 x2 x3 x4, fun k hk2 => by rw [f1 373 (by decide)]; exact hf.2 k hk2⟩
      · refine aw_aload_n dX9_settles_41 rfl ?_
        refine aw_aload_n dX9_settles_42 rfl ?_
        refine aw_v1q dX9_settles_43 vl_RX9_182 (by first | rfl | assumption) (Nat.le_of_ble_eq_true rfl) (Nat.le_of_ble_eq_true rfl) (Nat.le_of_ble_eq_true rfl) (Nat.le_refl _) (Nat.le_refl _) (c_X9_rounds sa ne (by omega) ev1 (addR_wf hV) (by rw [addR_4]; omega) (by rw [addR_4]; omega)) ?_
        intro v t' h2 hq
        obtain ⟨rfl, rfl, ev2, f2⟩ := hq
        have e73 : h2 373 = hh 373 := by rw [f2 373 (by omega) (by decide), f1 373 (by decide)]
        have e23 : h2 373 23 = ((F + kp : Nat) : Int) := by rw [e73]; exact w1
        refine aw_pop dX9_settles_46 rfl ?_
        refine aw_aload_n dX9_settles_47 rfl ?_
        refine aw_dup dX9_settles_48 rfl ?_
        refine aw_getI dX9_settles_49 fx_RX9_166 (by first | rfl | assumption) ?_
        rw [e23]
        refine aw_iconst dX9_settles_52 (by decide) (by decide) ?_
        refine aw_iadd dX9_settles_53 (by omega) (by omega) ?_
        refine aw_putI dX9_settles_54 fp_RX9_166 (by first | rfl | assumption) ?_
        refine aw_less (by repeat' (first | exact trivial | exact rfl | apply And.intro)) (tl _ ((Bool.not_eq_true _).mp (b_f c38)) ?_ ?_ ?_ ?_ ?_ ?_)
        · unfold mV mS
          rw [am_up_ne ne2]
          refine ev2.trans ?_
          rw [rnd_addR, addR_add]
          exact congrArg (addR (rnd V)) (by omega)
        · simp [am_up]
        · simp [am_up]; rw [e73]; exact w2
        · simp [am_up]; rw [e73]; exact w3
        · rw [am_up_ne (by decide), f2 387 (by omega) (by decide), f1 387 (by decide)]
        · refine ⟨fun c x1 x2 x3 x4 => by rw [am_up_ne x2, f2 c x1 x3, f1 c x3]; exact hf.1 c x1 x2 x3 x4, fun k hk2 => ?_⟩
          rw [← hf.2 k hk2, ← e73]
          unfold am_up
          rw [if_neg (by omega)]
end MOA
