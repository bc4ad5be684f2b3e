theorem frw_congr {V : VW} {H H' : Nat → Int → Int} {s kp : Nat} {i : Int} (hV : WFv V) (hH : ∀ k : Nat, k < kp → ∀ j, 0 ≤ j → j < V 0 0 → H k j = H' k j) (h0 : 0 ≤ i) (h1 : i < V 0 0) : frw V H s kp i = frw V H' s kp i := by
  have e : ∀ k : Nat, k < kp - s → wdg V (H (s + k)) i = wdg V (H' (s + k)) i := fun k hk => wdg_cg hV (hH (s + k) (by omega)) h0 h1
  unfold frw
  rw [alw_congr e, mxw_congr e]
theorem frz_congr {V : VW} {H H' : Nat → Int → Int} {s kp : Nat} (hV : WFv V) (hH : ∀ k : Nat, k < kp → ∀ j, 0 ≤ j → j < V 0 0 → H k j = H' k j) : frz V H s kp = frz V H' s kp := by
  funext j k
  unfold frz
  by_cases h : j = 4 ∧ 0 ≤ k ∧ k < V 0 0
  · rw [if_pos h, if_pos h]; exact frw_congr hV hH h.2.1 h.2.2
  · rw [if_neg h, if_neg h]
/-- what settling may touch: guesses and frozen of the sheet a, the cells 26 .. 231 -/
def BR (a : Nat) (h hh : Mem) : Prop := ∀ c, c ≠ a + 3 → c ≠ a + 4 → (c < 26 ∨ 231 < c) → hh c = h c
theorem BR.rf {a : Nat} {h : Mem} : BR a h h := fun _ _ _ _ => rfl
def SPost (a : Nat) (h : Mem) (R : SR5) (h' : Mem) : Prop := cV h' a = R.1 ∧ h' 26 3 = R.2.1 ∧ h' 26 4 = R.2.2.1 ∧ h' 26 5 = R.2.2.2.1 ∧ h' 26 6 = (if R.2.2.2.2 = true then 1 else 0) ∧ BR a h h'
def SInv (a : Nat) (h hh : Mem) (V : VW) (H : Nat → Int → Int) (kp : Nat) (r f g : Int) : Prop := cV hh a = V ∧ hh 26 6 = (if stl V = true then 1 else 0) ∧ hh 26 2 = (kp : Int) ∧ hh 26 3 = r ∧ hh 26 4 = f ∧ hh 26 5 = g ∧ Done V zz 27 hh (V 0 0).toNat ∧ (∀ k : Nat, k < kp → ∀ j : Nat, (j : Int) < V 0 0 → hh (32 + k) j = H k j) ∧ BR a h hh
section REST
variable {t : Tp} {h : Mem}
theorem cV_colw {a j0 : Nat} {hh : Mem} {F : Int → Int} (hj0 : 1 ≤ j0 ∧ j0 ≤ 4) (g1 : ∀ c, a ≤ c → c ≤ a + 4 → c ≠ a + j0 → hh c = h c) (g2 : ∀ k : Nat, (k : Int) < h a 0 → hh (a + j0) k = F k) : cV hh a = (fun j k => if j = j0 ∧ 0 ≤ k ∧ k < cV h a 0 0 then F k else cV h a j k) := by
  rw [← cV_col (h := h) (hh := fun c => if c = a + j0 then hh c else h c) hj0 (fun c hc => if_neg hc) (fun k hk => by show (if a + j0 = a + j0 then hh (a + j0) else h (a + j0)) k = F k; rw [if_pos rfl]; exact g2 k hk)]
  refine cV_congr (fun k _ _ => ?_) (fun j k j1 j4 _ _ => ?_)
  · show hh a k = (if a = a + j0 then hh a else h a) k
    rw [if_neg (by omega), g1 a (by omega) (by omega) (by omega)]
  · show hh (a + j) k = (if a + j = a + j0 then hh (a + j) else h (a + j)) k
    by_cases e : a + j = a + j0
    · rw [if_pos e]
    · rw [if_neg e, g1 (a + j) (by omega) (by omega) e]
set_option maxHeartbeats 4000000 in
theorem l_bring {Q : Option AV → Tp → Mem → Prop} {a : Nat} {stop : Bool} (hs : IsSh t a) (he : IsSe t) (ha : a + 4 < 26) (hro : RO h) :
    ∀ (n : Nat) (hh : Mem) (V : VW) (H : Nat → Int → Int) (kp : Nat) (r f g : Int), SInv a h hh V H kp r f g → WFv V → (∀ k : Nat, k < kp → ∀ j, 0 ≤ j → j < V 0 0 → 1 ≤ H k j ∧ H k j ≤ 98) → r + n = 200 → (kp : Int) ≤ r → 0 ≤ f → f ≤ r →
      (∀ h', SPost a h (strun stop n V H kp r f g) h' → Q none t h') → AW M_X6_bringToRest 0 0 Q 29 [some (vR 26), some (vR a), some (vI (if stop = true then 1 else 0)), none] [] t hh 0 0 := by
  obtain ⟨s0, s1, s2, s3, s4, r5, r6, r7, r8, lt⟩ := id hs
  obtain ⟨e0, e1, e2, e3, e4, e5, e6, e7⟩ := id he
  obtain ⟨o0, o1, o2, o3, q0, q1, q2, lt2⟩ := id e4
  intro n
  induction n with
  | zero =>
    intro hh V H kp r f g hI hV hH hr hkr hf0 hf1 hk
    obtain ⟨i1, i2, i3, i4, i5, i6, i7, i8, i9⟩ := hI
    have z : Q none t hh := hk hh ⟨i1, i4, i5, i6, i2, i9⟩
    refine aw_aload_n dX6_bringToRest_29 rfl ?_
    refine aw_getI dX6_bringToRest_30 fx_RX6_56 (by first | assumption | rfl) ?_
    refine aw_if_ne 113 dX6_bringToRest_33 rfl (fun c33 => ?_) (fun c33 => ?_)
    · refine aw_return dX6_bringToRest_113 rfl (Nat.le_refl _) (Nat.le_refl _) ?_
      exact z
    · refine aw_aload_n dX6_bringToRest_36 rfl ?_
      refine aw_getI dX6_bringToRest_37 fx_RX6_40 (by first | assumption | rfl) ?_
      refine aw_sipush dX6_bringToRest_40 (by decide) (by decide) ?_
      refine aw_icmp_ge 113 dX6_bringToRest_43 rfl (fun c43 => ?_) (fun c43 => ?_)
      · refine aw_return dX6_bringToRest_113 rfl (Nat.le_refl _) (Nat.le_refl _) ?_
        exact z
      · exfalso; omega
  | succ n ih =>
    intro hh V H kp r f g hI hV hH hr hkr hf0 hf1 hk
    obtain ⟨i1, i2, i3, i4, i5, i6, i7, i8, i9⟩ := hI
    by_cases hst : stl V = true
    · have es : strun stop (n + 1) V H kp r f g = (V, r, f, g, true) := by
        show (if stl V = true then _ else _) = _
        rw [if_pos hst]
      rw [es] at hk
      rw [if_pos hst] at i2
      have z : Q none t hh := hk hh ⟨i1, i4, i5, i6, by rw [i2]; rfl, i9⟩
      refine aw_aload_n dX6_bringToRest_29 rfl ?_
      refine aw_getI dX6_bringToRest_30 fx_RX6_56 (by first | assumption | rfl) ?_
      refine aw_if_ne 113 dX6_bringToRest_33 rfl (fun c33 => ?_) (fun c33 => ?_)
      · refine aw_return dX6_bringToRest_113 rfl (Nat.le_refl _) (Nat.le_refl _) ?_
        exact z
      · exfalso; omega
    · rw [if_neg hst] at i2
      have ec : hh a 0 = V 0 0 := by rw [← i1, cVc]
      have v1 := hV.1
      have v2 := hV.2.1
      -- the spec's next round
      generalize hfe : find (rnd V 3) (hup H kp (V 3)) (V 0 0).toNat kp = sf
      have es : strun stop (n + 1) V H kp r f g = (if sf = -1 then strun stop n (rnd V) (hup H kp (V 3)) (kp + 1) (r + 1) f g else if stop = true then (frz (rnd V) (hup H kp (V 3)) sf.toNat (kp + 1), r + 1, f + 1, (if f + 1 = 1 then (kp : Int) + 1 - sf else g), false) else strun stop n (frz (rnd V) (hup H kp (V 3)) sf.toNat (kp + 1)) (fun _ _ => 0) 0 (r + 1) (f + 1) (if f + 1 = 1 then (kp : Int) + 1 - sf else g)) := by
        show (if stl V = true then _ else _) = _
        rw [if_neg hst, hfe]
      rw [es] at hk
      have hV1 : WFv (rnd V) := rnd_wf hV
      have hH1 : ∀ k : Nat, k < kp + 1 → ∀ j, 0 ≤ j → j < (rnd V) 0 0 → 1 ≤ hup H kp (V 3) k j ∧ hup H kp (V 3) k j ≤ 98 := by
        intro k hk2 j j0 j1
        have j2 : j < V 0 0 := j1
        by_cases e : k = kp
        · rw [e, hup_at]
          have := hV.2.2.2.2.2.2.2.2 j j0 j2
          omega
        · rw [hup_ne e]; exact hH k (by omega) j j0 j2
      -- behind keep, the copy and the count
      have cont : ∀ h3 : Mem, cV h3 a = rnd V → h3 26 2 = (kp : Int) + 1 → h3 26 3 = r + 1 → h3 26 4 = f → h3 26 5 = g → h3 26 6 = 0 → (∀ k : Nat, k < kp + 1 → ∀ j : Nat, (j : Int) < V 0 0 → h3 (32 + k) j = hup H kp (V 3) k j) → BR a h h3 →
          AW M_X6_bringToRest 0 0 Q 79 [some (vR 26), some (vR a), some (vI (if stop = true then 1 else 0)), none] [] t h3 0 0 := by
        intro h3 c1 c2 c3 c4 c5 c6 c7 c8
        have ec3 : h3 a 0 = V 0 0 := by rw [← cVc (h := h3) (a := a), c1]; rfl
        have hro3 : RO h3 := fun j j0 j1 => by rw [c8 1000001 (by omega) (by omega) (by omega)]; exact hro j j0 j1
        have hV3 : WFv (cV h3 a) := by rw [c1]; exact hV1
        have efd : find (h3 (a + 3)) (fun k => h3 (32 + k)) (h3 a 0).toNat kp = sf := by
          rw [← hfe, ec3]
          refine find_congr kp (fun j hj => ?_) (fun k hk2 j hj => c7 k (by omega) j (by omega))
          rw [← cV3 (h := h3) (a := a) (by omega) (by omega), c1]
        have hfb := find_bd (f := rnd V 3) (H := hup H kp (V 3)) (cnt := (V 0 0).toNat) kp
        rw [hfe] at hfb
        have rest : ∀ (h4 : Mem) (V2 : VW) (H2 : Nat → Int → Int) (kp2 : Nat) (f2 g2 : Int) (x3 : Option AV), cV h4 a = V2 → WFv V2 → h4 26 2 = (kp2 : Int) → h4 26 3 = r + 1 → h4 26 4 = f2 → h4 26 5 = g2 → (∀ k : Nat, k < kp2 → ∀ j : Nat, (j : Int) < V2 0 0 → h4 (32 + k) j = H2 k j) → BR a h h4 → (∀ k : Nat, k < kp2 → ∀ j, 0 ≤ j → j < V2 0 0 → 1 ≤ H2 k j ∧ H2 k j ≤ 98) → (kp2 : Int) ≤ r + 1 → 0 ≤ f2 → f2 ≤ r + 1 → (∀ h', SPost a h (strun stop n V2 H2 kp2 (r + 1) f2 g2) h' → Q none t h') →
            AW M_X6_bringToRest 0 0 Q 101 [some (vR 26), some (vR a), some (vI (if stop = true then 1 else 0)), x3] [] t h4 0 0 := by
          intro h4 V2 H2 kp2 f2 g2 x3 d1 d2 d3 d4 d5 d6 d7 d8 d9 d10 d11 d12 d13
          have hro4 : RO h4 := fun j j0 j1 => by rw [d8 1000001 (by omega) (by omega) (by omega)]; exact hro j j0 j1
          have hV4 : WFv (cV h4 a) := by rw [d1]; exact d2
          have ec4 : h4 a 0 = V2 0 0 := by rw [← d1, cVc]
          refine aw_aload_n dX6_bringToRest_101 rfl ?_
          refine aw_aload_n dX6_bringToRest_102 rfl ?_
          refine aw_aload_n dX6_bringToRest_103 rfl ?_
          refine aw_v1q dX6_bringToRest_104 vl_RX6_52 (by first | assumption | rfl) (Nat.le_of_ble_eq_true rfl) (Nat.le_of_ble_eq_true rfl) (Nat.le_of_ble_eq_true rfl) (Nat.le_refl _) (Nat.le_refl _) (c_X6_isAtRest hs he ha hro4 hV4) ?_
          intro v t' h5 hq
          obtain ⟨rfl, rfl, f1, fd⟩ := hq
          rw [d1, ec4] at fd
          rw [d1]
          have eb : 0 ≤ (if stl V2 = true then (1 : Int) else 0) ∧ (if stl V2 = true then (1 : Int) else 0) ≤ 1 := by split <;> omega
          have e26 : h5 26 = h4 26 := f1 26 (by omega)
          refine aw_putZ dX6_bringToRest_107 fp_RX6_56 (by assumption) eb.1 eb.2 ?_
          refine aw_goto 29 dX6_bringToRest_110 rfl ?_
          refine aw_less ?_ (ih (am_up h5 26 6 (if stl V2 = true then 1 else 0)) V2 H2 kp2 (r + 1) f2 g2 ⟨?_, ?_, ?_, ?_, ?_, ?_, ?_, ?_, ?_⟩ d2 d9 (by omega) d10 d11 d12 d13)
          · exact (by repeat' (first | exact trivial | exact rfl | apply And.intro))
          · rw [← d1, ← f1.cV (a := a) (by omega)]
            exact cV_congr (fun k _ _ => by rw [am_up_ne (by omega)]) (fun j k _ _ _ _ => by rw [am_up_ne (by omega)])
          · simp [am_up]
          · simp [am_up, e26, d3]
          · simp [am_up, e26, d4]
          · simp [am_up, e26, d5]
          · simp [am_up, e26, d6]
          · intro k hk2
            have := fd k hk2
            rw [am_up_ne (by omega), am_up_ne (by omega), am_up_ne (by omega)]
            exact this
          · intro k hk2 j hj
            rw [am_up_ne (by omega), f1 (32 + k) (by omega)]
            exact d7 k hk2 j hj
          · intro c c1 c2 c3
            rw [am_up_ne (by omega), f1 c (by omega)]
            exact d8 c c1 c2 c3
          skip
        rcases (show sf = -1 ∨ ∃ sn : Nat, sf = (sn : Int) from by
          by_cases e : sf = -1
          · exact Or.inl e
          · exact Or.inr ⟨sf.toNat, by omega⟩) with e | ⟨sn, e⟩
        · subst e
          refine aw_aload_n dX6_bringToRest_79 rfl ?_
          refine aw_aload_n dX6_bringToRest_80 rfl ?_
          refine aw_v1i dX6_bringToRest_81 vl_RX6_70 (by first | assumption | rfl) (Nat.le_of_ble_eq_true rfl) (Nat.le_of_ble_eq_true rfl) (Nat.le_of_ble_eq_true rfl) (Nat.le_refl _) (Nat.le_refl _) (c_X6_ringSince (kp := kp) hs he (by omega) (by omega) c2 (by omega)) ?_
          rw [efd]
          refine aw_istore_n (ls' := [_, _, _, _]) dX6_bringToRest_84 (by decide) rfl ?_
          refine aw_iload_n dX6_bringToRest_85 rfl ?_
          refine aw_iconst dX6_bringToRest_86 (by decide) (by decide) ?_
          refine aw_icmp_eq 101 dX6_bringToRest_87 rfl (fun c87 => ?_) (fun c87 => ?_)
          · exact rest h3 (rnd V) (hup H kp (V 3)) (kp + 1) f g _ c1 hV1 (by omega) c3 c4 c5 (fun k hk2 j hj => c7 k hk2 j hj) c8 hH1 (by omega) hf0 (by omega) (fun h' hp => hk h' (by rw [if_pos rfl]; exact hp))
          · exact absurd rfl c87
        · subst e
          have hne : ¬ (sn : Int) = -1 := by omega
          rw [if_neg hne] at hk
          have hsn : sn < kp := by omega
          have efz : frz (cV h3 a) (fun k => h3 (32 + k)) sn (kp + 1) = frz (rnd V) (hup H kp (V 3)) sn (kp + 1) := by
            rw [c1]
            refine frz_congr hV1 (fun k hk2 j j0 j1 => ?_)
            have := c7 k hk2 j.toNat (by rw [am_nat j0]; exact j1)
            rw [am_nat j0] at this
            exact this
          have hrr : ∀ j : Nat, (j : Int) < h3 a 0 → h3 (a + 3) j = h3 (32 + sn) j := by
            intro j hj
            have q1 := find_eq (f := h3 (a + 3)) (H := fun k => h3 (32 + k)) (cnt := (h3 a 0).toNat) kp (by rw [efd]; exact hne)
            rw [efd] at q1
            exact (eqg_iff.mp q1) j (by omega)
          have hH3 : ∀ k : Nat, k < kp + 1 → ∀ j, 0 ≤ j → j < h3 a 0 → 1 ≤ h3 (32 + k) j ∧ h3 (32 + k) j ≤ 98 := by
            intro k hk2 j j0 j1
            have q1 := c7 k hk2 j.toNat (by omega)
            rw [am_nat j0] at q1
            rw [q1]
            exact hH1 k hk2 j j0 (by rw [ec3] at j1; exact j1)
          have hV2 : WFv (frz (rnd V) (hup H kp (V 3)) sn (kp + 1)) := frz_wf hV1 hH1
          have etn : ((sn : Int)).toNat = sn := rfl
          rw [etn] at hk
          by_cases hsp : stop = true
          · rw [if_pos hsp] at hk ⊢
            refine aw_aload_n dX6_bringToRest_79 rfl ?_
            refine aw_aload_n dX6_bringToRest_80 rfl ?_
            refine aw_v1i dX6_bringToRest_81 vl_RX6_70 (by first | assumption | rfl) (Nat.le_of_ble_eq_true rfl) (Nat.le_of_ble_eq_true rfl) (Nat.le_of_ble_eq_true rfl) (Nat.le_refl _) (Nat.le_refl _) (c_X6_ringSince (kp := kp) hs he (by omega) (by omega) c2 (by omega)) ?_
            rw [efd]
            refine aw_istore_n (ls' := [_, _, _, _]) dX6_bringToRest_84 (by decide) rfl ?_
            refine aw_iload_n dX6_bringToRest_85 rfl ?_
            refine aw_iconst dX6_bringToRest_86 (by decide) (by decide) ?_
            refine aw_icmp_eq 101 dX6_bringToRest_87 rfl (fun c87 => ?_) (fun c87 => ?_)
            · exfalso; omega
            · refine aw_aload_n dX6_bringToRest_90 rfl ?_
              refine aw_aload_n dX6_bringToRest_91 rfl ?_
              refine aw_iload_n dX6_bringToRest_92 rfl ?_
              refine aw_v2q dX6_bringToRest_93 vl_RX6_74 (by first | assumption | rfl) (Nat.le_of_ble_eq_true rfl) (Nat.le_of_ble_eq_true rfl) (Nat.le_of_ble_eq_true rfl) (Nat.le_refl _) (Nat.le_refl _) (c_X6_freezeSince (kp := kp + 1) (s := sn) hs he ha hro3 hV3 (by omega) (by omega) (by omega) hH3 hrr (by omega) (by omega)) ?_
              intro v t' h4 hq
              obtain ⟨rfl, rfl, f1, f2, f3, f4, f5, f6, f7⟩ := hq
              rw [efz] at f1
              refine aw_iload_n dX6_bringToRest_96 rfl ?_
              refine aw_if_eq 101 dX6_bringToRest_97 rfl (fun c97 => ?_) (fun c97 => ?_)
              · exfalso; omega
              · refine aw_return dX6_bringToRest_100 rfl (Nat.le_refl _) (Nat.le_refl _) ?_
                refine hk _ ⟨f1, by rw [f3, c3], by rw [f4, c4], ?_, by rw [f6, c6]; rfl, ?_⟩
                · rw [f5, c4, c5]
                  rfl
                · intro c q1 q2 q3
                  rw [f7 c q2 (by omega)]
                  exact c8 c q1 q2 q3
          · have hsp2 : (if stop = true then (1 : Int) else 0) = 0 := if_neg hsp
            rw [if_neg hsp] at hk
            rw [hsp2] at rest ⊢
            refine aw_aload_n dX6_bringToRest_79 rfl ?_
            refine aw_aload_n dX6_bringToRest_80 rfl ?_
            refine aw_v1i dX6_bringToRest_81 vl_RX6_70 (by first | assumption | rfl) (Nat.le_of_ble_eq_true rfl) (Nat.le_of_ble_eq_true rfl) (Nat.le_of_ble_eq_true rfl) (Nat.le_refl _) (Nat.le_refl _) (c_X6_ringSince (kp := kp) hs he (by omega) (by omega) c2 (by omega)) ?_
            rw [efd]
            refine aw_istore_n (ls' := [_, _, _, _]) dX6_bringToRest_84 (by decide) rfl ?_
            refine aw_iload_n dX6_bringToRest_85 rfl ?_
            refine aw_iconst dX6_bringToRest_86 (by decide) (by decide) ?_
            refine aw_icmp_eq 101 dX6_bringToRest_87 rfl (fun c87 => ?_) (fun c87 => ?_)
            · exfalso; omega
            · refine aw_aload_n dX6_bringToRest_90 rfl ?_
              refine aw_aload_n dX6_bringToRest_91 rfl ?_
              refine aw_iload_n dX6_bringToRest_92 rfl ?_
              refine aw_v2q dX6_bringToRest_93 vl_RX6_74 (by first | assumption | rfl) (Nat.le_of_ble_eq_true rfl) (Nat.le_of_ble_eq_true rfl) (Nat.le_of_ble_eq_true rfl) (Nat.le_refl _) (Nat.le_refl _) (c_X6_freezeSince (kp := kp + 1) (s := sn) hs he ha hro3 hV3 (by omega) (by omega) (by omega) hH3 hrr (by omega) (by omega)) ?_
              intro v t' h4 hq
              obtain ⟨rfl, rfl, f1, f2, f3, f4, f5, f6, f7⟩ := hq
              rw [efz] at f1
              refine aw_iload_n dX6_bringToRest_96 rfl ?_
              refine aw_if_eq 101 dX6_bringToRest_97 rfl (fun c97 => ?_) (fun c97 => ?_)
              · refine rest h4 _ (fun _ _ => 0) 0 (f + 1) (if f + 1 = 1 then (kp : Int) + 1 - sn else g) _ f1 hV2 (by rw [f2]; rfl) (by rw [f3, c3]) (by rw [f4, c4]) ?_ (fun k hk2 => absurd hk2 (by omega)) ?_ (fun k hk2 => absurd hk2 (by omega)) (by omega) (by omega) (by omega) hk
                · rw [f5, c4, c5]
                  rfl
                · intro c q1 q2 q3
                  rw [f7 c q2 (by omega)]
                  exact c8 c q1 q2 q3
              · exfalso; omega
      refine aw_aload_n dX6_bringToRest_29 rfl ?_
      refine aw_getI dX6_bringToRest_30 fx_RX6_56 (by first | assumption | rfl) ?_
      refine aw_if_ne 113 dX6_bringToRest_33 rfl (fun c33 => ?_) (fun c33 => ?_)
      · exfalso; omega
      · refine aw_aload_n dX6_bringToRest_36 rfl ?_
        refine aw_getI dX6_bringToRest_37 fx_RX6_40 (by first | assumption | rfl) ?_
        refine aw_sipush dX6_bringToRest_40 (by decide) (by decide) ?_
        refine aw_icmp_ge 113 dX6_bringToRest_43 rfl (fun c43 => ?_) (fun c43 => ?_)
        · exfalso; omega
        · refine aw_aload_n dX6_bringToRest_46 rfl ?_
          refine aw_aload_n dX6_bringToRest_47 rfl ?_
          refine aw_v1q dX6_bringToRest_48 vl_RX6_60 (by first | assumption | rfl) (Nat.le_of_ble_eq_true rfl) (Nat.le_of_ble_eq_true rfl) (Nat.le_of_ble_eq_true rfl) (Nat.le_refl _) (Nat.le_refl _) (c_X6_keep (kp := kp) hs he ha i3 (by omega)) ?_
          intro v t' h1 hq
          obtain ⟨rfl, rfl, k1, k2, k3, k4⟩ := hq
          refine aw_aload_n dX6_bringToRest_51 rfl ?_
          refine aw_getR1 dX6_bringToRest_52 fx_RX6_12 (by first | assumption | rfl) (by first | assumption | rfl) ?_
          refine aw_getR1 dX6_bringToRest_55 fx_RX6_37 (by first | assumption | rfl) (by first | assumption | rfl) ?_
          refine aw_iconst dX6_bringToRest_58 (by decide) (by decide) ?_
          refine aw_aload_n dX6_bringToRest_59 rfl ?_
          refine aw_getR1 dX6_bringToRest_60 fx_RX6_33 (by first | assumption | rfl) (by first | assumption | rfl) ?_
          refine aw_iconst dX6_bringToRest_63 (by decide) (by decide) ?_
          refine aw_bipush dX6_bringToRest_64 (by decide) (by decide) ?_
          refine aw_copy dX6_bringToRest_66 ac_RX6_64 (by first | assumption | rfl) (by first | assumption | rfl) (by omega) (by omega) (by omega) (by omega) (by omega) (by omega) (by omega) (by decide) (Nat.le_of_ble_eq_true rfl) ?_
          refine aw_aload_n dX6_bringToRest_69 rfl ?_
          refine aw_dup dX6_bringToRest_70 rfl ?_
          refine aw_getI dX6_bringToRest_71 fx_RX6_40 (by first | assumption | rfl) ?_
          refine aw_iconst dX6_bringToRest_74 (by decide) (by decide) ?_
          rw [show am_cpy h1 (27 + 1) 0 (a + 3) 0 12 26 = h1 26 from am_cpy_ne (by omega), k2 3 (by decide), i4]
          refine aw_iadd dX6_bringToRest_75 (by omega) (by omega) ?_
          refine aw_putI dX6_bringToRest_76 fp_RX6_40 (by first | assumption | rfl) ?_
          refine cont _ ?_ ?_ ?_ ?_ ?_ ?_ ?_ ?_
          · rw [← i1]
            refine cV_colw (j0 := 3) (h := hh) (F := pag (cV hh a)) (by omega) (fun c q1 q2 q3 => ?_) (fun k hk2 => ?_)
            · rw [am_up_ne (by omega), am_cpy_ne q3, k4 c (by omega) (by omega)]
            · rw [am_up_ne (by omega)]
              unfold am_cpy
              rw [if_pos ⟨rfl, by omega, by omega⟩, k4 (27 + 1) (by omega) (by omega), show (0 : Int) + ((k : Int) - 0) = k by omega, i1]
              exact (i7 k (by omega)).1
          · simp [am_up, am_cpy, show ¬ 26 = a + 3 by omega, k1]
          · simp [am_up]
          · simp [am_up, am_cpy, show ¬ 26 = a + 3 by omega, k2, i5]
          · simp [am_up, am_cpy, show ¬ 26 = a + 3 by omega, k2, i6]
          · simp [am_up, am_cpy, show ¬ 26 = a + 3 by omega, k2, i2]
          · intro k hk2 j hj
            rw [am_up_ne (by omega), am_cpy_ne (by omega)]
            by_cases e : k = kp
            · rw [e, k3 j (by omega) (by omega), hup_at, ← i1, cV3 (by omega) (by omega)]
            · rw [hup_ne e, k4 (32 + k) (by omega) (by omega)]
              exact i8 k (by omega) j hj
          · intro c q1 q2 q3
            rw [am_up_ne (by omega), am_cpy_ne q1, k4 c (by omega) (by omega)]
            exact i9 c q1 q2 q3
end REST
