/-! edits by draws: the sheet, the number drawn, how often a guess changed -/
def edX (x : Int) : Int := x * 16807 % 2147483647
def edV (V : VW) (x : Int) : VW := if V 1 (x % V 0 0) = 4 then setV V 2 (x % V 0 0) (x % 20 + 1) else if V 1 (x % V 0 0) ≤ 3 then setV V 2 (x % V 0 0) (x % V 0 0) else V
def edN (V : VW) (x : Int) : Nat → VW × Int × Int
  | 0 => (V, x, 0)
  | k + 1 => (rnd (edV (edN V x k).1 (edX (edN V x k).2.1)), edX (edN V x k).2.1, (edN V x k).2.2 + (if 0 < chg (edV (edN V x k).1 (edX (edN V x k).2.1)) (V 0 0).toNat then 1 else 0))
theorem edV_wf {V : VW} {x : Int} (hV : WFv V) (hx : 0 ≤ x) : WFv (edV V x) := by
  have c1 := hV.1
  have m0 : 0 ≤ x % V 0 0 := Int.emod_nonneg _ (by omega)
  have m1 : x % V 0 0 < V 0 0 := Int.emod_lt_of_pos _ (by omega)
  unfold edV
  split
  · exact setV2_wf hV (fun z => by omega) (fun _ => by omega)
  · split
    · exact setV2_wf hV (fun _ => ⟨m0, m1⟩) (fun z => by omega)
    · exact hV
theorem edV_0 {V : VW} {x k : Int} : edV V x 0 k = V 0 k := by
  unfold edV
  split
  · rfl
  · split <;> rfl
theorem edN_ok {V : VW} {x : Int} (hV : WFv V) (h0 : 0 ≤ x) (h1 : x < 2147483647) : ∀ k : Nat, WFv (edN V x k).1 ∧ (∀ j, (edN V x k).1 0 j = V 0 j) ∧ 0 ≤ (edN V x k).2.1 ∧ (edN V x k).2.1 < 2147483647 ∧ 0 ≤ (edN V x k).2.2 ∧ (edN V x k).2.2 ≤ k
  | 0 => ⟨hV, fun _ => rfl, h0, h1, by show (0 : Int) ≤ 0; omega, by show (0 : Int) ≤ 0; omega⟩
  | k + 1 => by
    obtain ⟨a1, a2, a3, a4, a5, a6⟩ := edN_ok hV h0 h1 k
    have b3 : 0 ≤ edX (edN V x k).2.1 := Int.emod_nonneg _ (by omega)
    have b4 : edX (edN V x k).2.1 < 2147483647 := Int.emod_lt_of_pos _ (by omega)
    refine ⟨rnd_wf (edV_wf a1 b3), fun j => ?_, b3, b4, ?_, ?_⟩
    · show rnd (edV (edN V x k).1 (edX (edN V x k).2.1)) 0 j = _
      unfold rnd
      rw [if_neg (by omega), edV_0, a2]
    · show 0 ≤ (edN V x k).2.2 + (if _ then 1 else 0)
      split <;> omega
    · show (edN V x k).2.2 + (if _ then 1 else 0) ≤ _
      split <;> omega
def sp_drawn (σ : ST) (k s w : Int) : Int × ST := if s_liv σ 0 0 = 0 then (-1000002, σ) else if k < 0 ∨ 60 < k ∨ s < 1 ∨ 999999 < s ∨ w < 0 ∨ 1 < w then (-1000001, σ) else (if w = 0 then (edN (s_liv σ) s k.toNat).2.2 else lastG (edN (s_liv σ) s k.toNat).1, σ)
section DRA
variable {e q n L : Nat} {h : Mem}
set_option maxHeartbeats 4000000 in
theorem l_edits {Q : Option AV → Tp → Mem → Prop} {V : VW} {s : Int} {N : Nat} (hV : WFv V) (hro : RO h) (s0 : 1 ≤ s) (s1 : s ≤ 999999) (hN : N ≤ 60) (hk : ∀ hh : Mem, SC h hh → cV hh 21 = (edN V s N).1 → Q (some (vI (edN V s N).2.2)) (TT e q n L) hh) :
    ∀ (m : Nat) (k : Nat) (hh : Mem), k + m = N → SC h hh → cV hh 21 = (edN V s k).1 → AW M_X1_editsThatChange 0 0 Q 20 [some (vR 232), some (vI N), some (vI s), some (vL (edN V s k).2.1), none, some (vI (edN V s k).2.2), some (vI k), none] [] (TT e q n L) hh 0 0 := by
  have v1 := hV.1
  have v2 := hV.2.1
  intro m
  induction m with
  | zero =>
    intro k hh hi hf hc
    have ek : k = N := by omega
    subst ek
    refine aw_iload dX1_editsThatChange_20 rfl ?_
    refine aw_iload_n dX1_editsThatChange_22 rfl ?_
    refine aw_icmp_ge 141 dX1_editsThatChange_23 rfl (fun c23 => ?_) (fun c23 => ?_)
    · refine aw_iload dX1_editsThatChange_141 rfl ?_
      refine aw_ireturn dX1_editsThatChange_143 rfl (Nat.le_refl _) (Nat.le_refl _) ?_
      exact hk hh hf hc
    · exfalso; omega
  | succ m ih =>
    intro k hh hi hf hc
    obtain ⟨a1, a2, a3, a4, a5, a6⟩ := edN_ok hV (x := s) (by omega) (by omega) k
    have b3 : 0 ≤ edX (edN V s k).2.1 := Int.emod_nonneg _ (by omega)
    have b4 : edX (edN V s k).2.1 < 2147483647 := Int.emod_lt_of_pos _ (by omega)
    have e0 : hh 21 0 = V 0 0 := by rw [← cVc (h := hh), hc, a2]
    have es : edN V s (k + 1) = (rnd (edV (edN V s k).1 (edX (edN V s k).2.1)), edX (edN V s k).2.1, (edN V s k).2.2 + (if 0 < chg (edV (edN V s k).1 (edX (edN V s k).2.1)) (V 0 0).toNat then 1 else 0)) := rfl
    have z := ih (k + 1)
    rw [es] at z
    have eX : (edN V s k).2.1 * 16807 % 2147483647 = edX (edN V s k).2.1 := rfl
    generalize edX (edN V s k).2.1 = X at b3 b4 z eX
    generalize (edN V s k).2.1 = x0 at a3 a4 z eX
    generalize (edN V s k).2.2 = cc at a5 a6 z
    generalize (edN V s k).1 = V1 at a1 a2 hc z
    have m0 : 0 ≤ X % V 0 0 := Int.emod_nonneg _ (by omega)
    have m1 : X % V 0 0 < V 0 0 := Int.emod_lt_of_pos _ (by omega)
    have k1 : hh (21 + 1) (X % V 0 0) = V1 1 (X % V 0 0) := by rw [← hc, cV1 m0 (by omega)]
    have wi := a1.2.2.2.2.2.2.2.2 (X % V 0 0) m0 (by rw [a2]; exact m1)
    have tl : ∀ (h2 : Mem) (x7 : Option AV), SC h h2 → cV h2 21 = edV V1 X → AW M_X1_editsThatChange 0 0 Q 118 [some (vR 232), some (vI N), some (vI s), some (vL X), none, some (vI cc), some (vI k), x7] [] (TT e q n L) h2 0 0 := by
      intro h2 x7 hs hc2
      have e2 : h2 21 0 = V 0 0 := by rw [← cVc (h := h2), hc2, edV_0, a2]
      refine aw_aload_n dX1_editsThatChange_118 rfl ?_
      refine aw_getR1 dX1_editsThatChange_119 fx_RX1_29 (by first | rfl | assumption) (by first | rfl | assumption) ?_
      refine aw_aload_n dX1_editsThatChange_122 rfl ?_
      refine aw_getR1 dX1_editsThatChange_123 fx_RX1_26 (by first | rfl | assumption) (by first | rfl | assumption) ?_
      refine aw_v1q dX1_editsThatChange_126 vl_RX1_42 (by first | rfl | assumption) (Nat.le_of_ble_eq_true rfl) (Nat.le_of_ble_eq_true rfl) (Nat.le_of_ble_eq_true rfl) (Nat.le_refl _) (Nat.le_refl _) (c_X6_goRound sh_21 isSe (by decide) (hs.ro hro) (by rw [hc2]; exact edV_wf a1 b3)) ?_
      intro v t' h3 hq
      obtain ⟨rfl, rfl, f3, f4⟩ := hq
      rw [hc2] at f3
      rw [hc2, e2]
      have z2 := z h3 (by omega) (fun c hc3 => by rw [f4 c (by omega) (by omega)]; exact hs c hc3) f3
      refine aw_if_le 135 dX1_editsThatChange_129 rfl (fun c129 => ?_) (fun c129 => ?_)
      · refine aw_iinc (ls' := [_, _, _, _, _, _, _, _]) dX1_editsThatChange_135 (by decide) rfl (by omega) (by omega) rfl ?_
        refine aw_goto 20 dX1_editsThatChange_138 rfl ?_
        first | (rw [if_pos (by omega)] at z2; exact aw_less (by repeat' (first | exact trivial | exact rfl | apply And.intro)) z2) | (rw [if_neg (by omega)] at z2; simp only [Int.add_zero] at z2; exact aw_less (by repeat' (first | exact trivial | exact rfl | apply And.intro)) z2)
      · refine aw_iinc (ls' := [_, _, _, _, _, _, _, _]) dX1_editsThatChange_132 (by decide) rfl (by omega) (by omega) rfl ?_
        refine aw_iinc (ls' := [_, _, _, _, _, _, _, _]) dX1_editsThatChange_135 (by decide) rfl (by omega) (by omega) rfl ?_
        refine aw_goto 20 dX1_editsThatChange_138 rfl ?_
        first | (rw [if_pos (by omega)] at z2; exact aw_less (by repeat' (first | exact trivial | exact rfl | apply And.intro)) z2) | (rw [if_neg (by omega)] at z2; simp only [Int.add_zero] at z2; exact aw_less (by repeat' (first | exact trivial | exact rfl | apply And.intro)) z2)
    have esn : ∀ x : Int, cV (am_up hh (21 + 2) (X % V 0 0) x) 21 = setV V1 2 (X % V 0 0) x := fun x => by rw [cV_set (by omega) m0 (by omega), hc]
    have sc2 : ∀ x : Int, SC h (am_up hh (21 + 2) (X % V 0 0) x) := fun x c hc2 => by rw [am_up_ne (by omega)]; exact hf c hc2
    have eed : edV V1 X = if V1 1 (X % V 0 0) = 4 then setV V1 2 (X % V 0 0) (X % 20 + 1) else if V1 1 (X % V 0 0) ≤ 3 then setV V1 2 (X % V 0 0) (X % V 0 0) else V1 := by unfold edV; rw [a2]
    refine aw_iload dX1_editsThatChange_20 rfl ?_
    refine aw_iload_n dX1_editsThatChange_22 rfl ?_
    refine aw_icmp_ge 141 dX1_editsThatChange_23 rfl (fun c23 => ?_) (fun c23 => ?_)
    · exfalso; omega
    · refine aw_aload_n dX1_editsThatChange_26 rfl ?_
      refine aw_getR1 dX1_editsThatChange_27 fx_RX1_26 (by first | rfl | assumption) (by first | rfl | assumption) ?_
      refine aw_getI dX1_editsThatChange_30 fx_RX1_55 (by first | rfl | assumption) ?_
      refine aw_if_le 141 dX1_editsThatChange_33 rfl (fun c33 => ?_) (fun c33 => ?_)
      · exfalso; omega
      · refine aw_lload_n dX1_editsThatChange_36 rfl ?_
        refine aw_ldc2 (n := 16807) dX1_editsThatChange_37 kl_RX1_138 (by decide) ?_
        refine aw_lmul dX1_editsThatChange_40 (by omega) (by omega) ?_
        refine aw_ldc2 (n := 2147483647) dX1_editsThatChange_41 kl_RX1_140 (by decide) ?_
        refine aw_lrem dX1_editsThatChange_44 (by omega) (by omega) ?_
        rw [eX]
        refine aw_lstore_n (ls' := [_, _, _, _, _, _, _, _]) dX1_editsThatChange_45 (by decide) rfl ?_
        refine aw_lload_n dX1_editsThatChange_46 rfl ?_
        refine aw_aload_n dX1_editsThatChange_47 rfl ?_
        refine aw_getR1 dX1_editsThatChange_48 fx_RX1_26 (by first | rfl | assumption) (by first | rfl | assumption) ?_
        refine aw_getI dX1_editsThatChange_51 fx_RX1_55 (by first | rfl | assumption) ?_
        rw [e0]
        refine aw_i2l dX1_editsThatChange_54 ?_
        refine aw_lrem dX1_editsThatChange_55 (by omega) (by omega) ?_
        refine aw_l2i dX1_editsThatChange_56 (by omega) (by omega) ?_
        refine aw_istore (ls' := [_, _, _, _, _, _, _, _]) dX1_editsThatChange_57 (by decide) rfl ?_
        refine aw_aload_n dX1_editsThatChange_59 rfl ?_
        refine aw_getR1 dX1_editsThatChange_60 fx_RX1_26 (by first | rfl | assumption) (by first | rfl | assumption) ?_
        refine aw_getR1 dX1_editsThatChange_63 fx_RX1_111 (by first | rfl | assumption) (by first | rfl | assumption) ?_
        refine aw_iload dX1_editsThatChange_66 rfl ?_
        refine aw_iaload dX1_editsThatChange_68 (by first | rfl | assumption) (by omega) (by omega) ?_
        refine aw_iconst dX1_editsThatChange_69 (by decide) (by decide) ?_
        refine aw_icmp_ne 94 dX1_editsThatChange_70 rfl (fun c70 => ?_) (fun c70 => ?_)
        · refine aw_aload_n dX1_editsThatChange_94 rfl ?_
          refine aw_getR1 dX1_editsThatChange_95 fx_RX1_26 (by first | rfl | assumption) (by first | rfl | assumption) ?_
          refine aw_iload dX1_editsThatChange_98 rfl ?_
          refine aw_v1i dX1_editsThatChange_100 vl_RX1_62 (by first | rfl | assumption) (Nat.le_of_ble_eq_true rfl) (Nat.le_of_ble_eq_true rfl) (Nat.le_of_ble_eq_true rfl) (Nat.le_refl _) (Nat.le_refl _) (c_X7_isReference sh_21 m0 (by omega)) ?_
          refine aw_ifB_eq 118 dX1_editsThatChange_103 rfl (fun c103 => ?_) (fun c103 => ?_)
          · refine tl hh _ hf ?_
            rw [eed, if_neg (by omega), if_neg (by omega)]; exact hc
          · refine aw_aload_n dX1_editsThatChange_106 rfl ?_
            refine aw_getR1 dX1_editsThatChange_107 fx_RX1_26 (by first | rfl | assumption) (by first | rfl | assumption) ?_
            refine aw_getR1 dX1_editsThatChange_110 fx_RX1_59 (by first | rfl | assumption) (by first | rfl | assumption) ?_
            refine aw_iload dX1_editsThatChange_113 rfl ?_
            refine aw_iload dX1_editsThatChange_115 rfl ?_
            refine aw_iastore dX1_editsThatChange_117 (by first | rfl | assumption) (by omega) (by omega) (by omega) ?_
            first | (refine tl _ _ (sc2 _) ?_; rw [esn, eed, if_pos (by omega)]; done) | (refine tl _ _ (sc2 _) ?_; rw [esn, eed, if_neg (by omega), if_pos (by omega)]; done)
        · refine aw_aload_n dX1_editsThatChange_73 rfl ?_
          refine aw_getR1 dX1_editsThatChange_74 fx_RX1_26 (by first | rfl | assumption) (by first | rfl | assumption) ?_
          refine aw_getR1 dX1_editsThatChange_77 fx_RX1_59 (by first | rfl | assumption) (by first | rfl | assumption) ?_
          refine aw_iload dX1_editsThatChange_80 rfl ?_
          refine aw_lload_n dX1_editsThatChange_82 rfl ?_
          refine aw_ldc2 (n := 20) dX1_editsThatChange_83 kl_RX1_142 (by decide) ?_
          refine aw_lrem dX1_editsThatChange_86 (by omega) (by omega) ?_
          refine aw_l2i dX1_editsThatChange_87 (by omega) (by omega) ?_
          refine aw_iconst dX1_editsThatChange_88 (by decide) (by decide) ?_
          refine aw_iadd dX1_editsThatChange_89 (by omega) (by omega) ?_
          refine aw_iastore dX1_editsThatChange_90 (by first | rfl | assumption) (by omega) (by omega) (by omega) ?_
          refine aw_goto 118 dX1_editsThatChange_91 rfl ?_
          first | (refine tl _ _ (sc2 _) ?_; rw [esn, eed, if_pos (by omega)]; done) | (refine tl _ _ (sc2 _) ?_; rw [esn, eed, if_neg (by omega), if_pos (by omega)]; done)
theorem c_X1_edits {k s : Int} (hro : RO h) (hV : WFv (cV h 16)) (k0 : 0 ≤ k) (k1 : k ≤ 60) (s0 : 1 ≤ s) (s1 : s ≤ 999999) : Sem M_X1_editsThatChange [vR 232, vI k, vI s] (TT e q n L) h 0 0 (fun v t' h' => v = some (vI (edN (cV h 16) s k.toNat).2.2) ∧ t' = TT e q n L ∧ SC h h' ∧ cV h' 21 = (edN (cV h 16) s k.toNat).1) := by
  have w2 := hV.2.1
  rw [cVc] at w2
  obtain ⟨N, rfl⟩ : ∃ N : Nat, k = (N : Int) := ⟨k.toNat, by omega⟩
  refine sem_intro (by decide) rfl (Nat.le_of_ble_eq_true rfl) rfl ?_
  refine aw_aload_n dX1_editsThatChange_0 rfl ?_
  refine aw_getR1 dX1_editsThatChange_1 fx_RX1_26 (by first | rfl | assumption) (by first | rfl | assumption) ?_
  refine aw_aload_n dX1_editsThatChange_4 rfl ?_
  refine aw_getR1 dX1_editsThatChange_5 fx_RX1_22 (by first | rfl | assumption) (by first | rfl | assumption) ?_
  refine aw_v1q dX1_editsThatChange_8 vl_RX1_36 (by first | rfl | assumption) (Nat.le_of_ble_eq_true rfl) (Nat.le_of_ble_eq_true rfl) (Nat.le_of_ble_eq_true rfl) (Nat.le_refl _) (Nat.le_refl _) (c_X7_takeFrom sh_21 sh_16 (by decide) (by omega)) ?_
  intro v t' h1 hq
  obtain ⟨rfl, rfl, f1, f2⟩ := hq
  refine aw_iload_n dX1_editsThatChange_11 rfl ?_
  refine aw_i2l dX1_editsThatChange_12 ?_
  refine aw_lstore_n (ls' := [_, _, _, _, _, _, _, _]) dX1_editsThatChange_13 (by decide) rfl ?_
  refine aw_iconst dX1_editsThatChange_14 (by decide) (by decide) ?_
  refine aw_istore (ls' := [_, _, _, _, _, _, _, _]) dX1_editsThatChange_15 (by decide) rfl ?_
  refine aw_iconst dX1_editsThatChange_17 (by decide) (by decide) ?_
  refine aw_istore (ls' := [_, _, _, _, _, _, _, _]) dX1_editsThatChange_18 (by decide) rfl ?_
  exact aw_less (by repeat' (first | exact trivial | exact rfl | apply And.intro)) (l_edits (N := N) (V := cV h 16) (s := s) hV hro s0 s1 (by omega) (fun hh f g => ⟨rfl, rfl, f, g⟩) N 0 h1 (by omega) (fun c hc => f2 c (by omega)) f1)
theorem c_X8_drawn {σ : ST} {k s w : Int} (hC : CS h σ) (hW : WFst σ) (hro : RO h) : Sem M_X8_drawn [vR 0, vI k, vI s, vI w] (TT e q n L) h 0 0 (PC (sp_drawn σ k s w) h (TT e q n L)) := by
  have eV : cV h 16 = s_liv σ := hC.2.2.2.2.1
  have e0 : h 16 0 = s_liv σ 0 0 := by rw [← eV, cVc]
  have hcn := wf_cnt hW.2.2.2.1
  unfold sp_drawn
  refine sem_intro (by decide) rfl (Nat.le_of_ble_eq_true rfl) rfl ?_
  refine aw_aload_n dX8_drawn_0 rfl ?_
  refine aw_v0i dX8_drawn_1 vl_RX8_142 (by first | rfl | assumption) (Nat.le_of_ble_eq_true rfl) (Nat.le_of_ble_eq_true rfl) (Nat.le_of_ble_eq_true rfl) (Nat.le_refl _) (Nat.le_refl _) (c_X8_isWithoutSheet) ?_
  refine aw_ifB_eq 10 dX8_drawn_4 rfl (fun c4 => ?_) (fun c4 => ?_)
  · refine aw_iload_n dX8_drawn_10 rfl ?_
    refine aw_if_lt 41 dX8_drawn_11 rfl (fun c11 => ?_) (fun c11 => ?_)
    · refine aw_ldc (n := -1000001) dX8_drawn_41 kc_RX8_80 (by decide) ?_
      refine aw_ireturn dX8_drawn_43 rfl (Nat.le_refl _) (Nat.le_refl _) ?_
      rw [if_neg (by omega), if_pos (by omega)]
      exact ⟨rfl, rfl, hC, fun _ _ => rfl⟩
    · refine aw_iload_n dX8_drawn_14 rfl ?_
      refine aw_bipush dX8_drawn_15 (by decide) (by decide) ?_
      refine aw_icmp_gt 41 dX8_drawn_17 rfl (fun c17 => ?_) (fun c17 => ?_)
      · refine aw_ldc (n := -1000001) dX8_drawn_41 kc_RX8_80 (by decide) ?_
        refine aw_ireturn dX8_drawn_43 rfl (Nat.le_refl _) (Nat.le_refl _) ?_
        rw [if_neg (by omega), if_pos (by omega)]
        exact ⟨rfl, rfl, hC, fun _ _ => rfl⟩
      · refine aw_iload_n dX8_drawn_20 rfl ?_
        refine aw_iconst dX8_drawn_21 (by decide) (by decide) ?_
        refine aw_icmp_lt 41 dX8_drawn_22 rfl (fun c22 => ?_) (fun c22 => ?_)
        · refine aw_ldc (n := -1000001) dX8_drawn_41 kc_RX8_80 (by decide) ?_
          refine aw_ireturn dX8_drawn_43 rfl (Nat.le_refl _) (Nat.le_refl _) ?_
          rw [if_neg (by omega), if_pos (by omega)]
          exact ⟨rfl, rfl, hC, fun _ _ => rfl⟩
        · refine aw_iload_n dX8_drawn_25 rfl ?_
          refine aw_ldc_w (n := 999999) dX8_drawn_26 kc_RX8_295 (by decide) ?_
          refine aw_icmp_gt 41 dX8_drawn_29 rfl (fun c29 => ?_) (fun c29 => ?_)
          · refine aw_ldc (n := -1000001) dX8_drawn_41 kc_RX8_80 (by decide) ?_
            refine aw_ireturn dX8_drawn_43 rfl (Nat.le_refl _) (Nat.le_refl _) ?_
            rw [if_neg (by omega), if_pos (by omega)]
            exact ⟨rfl, rfl, hC, fun _ _ => rfl⟩
          · refine aw_iload_n dX8_drawn_32 rfl ?_
            refine aw_if_lt 41 dX8_drawn_33 rfl (fun c33 => ?_) (fun c33 => ?_)
            · refine aw_ldc (n := -1000001) dX8_drawn_41 kc_RX8_80 (by decide) ?_
              refine aw_ireturn dX8_drawn_43 rfl (Nat.le_refl _) (Nat.le_refl _) ?_
              rw [if_neg (by omega), if_pos (by omega)]
              exact ⟨rfl, rfl, hC, fun _ _ => rfl⟩
            · refine aw_iload_n dX8_drawn_36 rfl ?_
              refine aw_iconst dX8_drawn_37 (by decide) (by decide) ?_
              refine aw_icmp_le 44 dX8_drawn_38 rfl (fun c38 => ?_) (fun c38 => ?_)
              · have hL := wf_liv hW.2.2.2.1 (by omega)
                have hok := edN_ok hL.1 (x := s) (by omega) (by omega) k.toNat
                refine aw_aload_n dX8_drawn_44 rfl ?_
                refine aw_getR1 dX8_drawn_45 fx_RX8_49 (by first | rfl | assumption) (by first | rfl | assumption) ?_
                refine aw_iload_n dX8_drawn_48 rfl ?_
                refine aw_iload_n dX8_drawn_49 rfl ?_
                refine aw_v2q dX8_drawn_50 vl_RX8_296 (by first | rfl | assumption) (Nat.le_of_ble_eq_true rfl) (Nat.le_of_ble_eq_true rfl) (Nat.le_of_ble_eq_true rfl) (Nat.le_refl _) (Nat.le_refl _) (c_X1_edits hro (by rw [eV]; exact hL.1) (by omega) (by omega) (by omega) (by omega)) ?_
                intro v t' h1 hq
                obtain ⟨rfl, rfl, f1, f2⟩ := hq
                rw [eV] at f2 ⊢
                have e21 : h1 21 0 = s_liv σ 0 0 := by rw [← cVc (h := h1), f2, hok.2.1]
                refine aw_istore (ls' := [_, _, _, _, _]) dX8_drawn_53 (by decide) rfl ?_
                refine aw_iload_n dX8_drawn_55 rfl ?_
                refine aw_if_ne 64 dX8_drawn_56 rfl (fun c56 => ?_) (fun c56 => ?_)
                · refine aw_aload_n dX8_drawn_64 rfl ?_
                  refine aw_getR1 dX8_drawn_65 fx_RX8_34 (by first | rfl | assumption) (by first | rfl | assumption) ?_
                  refine aw_v0i dX8_drawn_68 vl_RX8_245 (by first | rfl | assumption) (Nat.le_of_ble_eq_true rfl) (Nat.le_of_ble_eq_true rfl) (Nat.le_of_ble_eq_true rfl) (Nat.le_refl _) (Nat.le_refl _) (c_X7_lastGuess sh_21 (by omega) (by omega)) ?_
                  refine aw_ireturn dX8_drawn_71 rfl (Nat.le_refl _) (Nat.le_refl _) ?_
                  rw [if_neg (by omega), if_neg (by omega)]
                  exact ⟨am_ri (by rw [if_neg c56, ← f2]; unfold lastG; rw [cVc, cV3 (by omega) (by omega)]), rfl, f1.cs hC, fun c hc => f1 c (by omega)⟩
                · refine aw_iload dX8_drawn_59 rfl ?_
                  refine aw_goto 71 dX8_drawn_61 rfl ?_
                  refine aw_ireturn dX8_drawn_71 rfl (Nat.le_refl _) (Nat.le_refl _) ?_
                  rw [if_neg (by omega), if_neg (by omega)]
                  exact ⟨am_ri (if_pos c56).symm, rfl, f1.cs hC, fun c hc => f1 c (by omega)⟩
              · refine aw_ldc (n := -1000001) dX8_drawn_41 kc_RX8_80 (by decide) ?_
                refine aw_ireturn dX8_drawn_43 rfl (Nat.le_refl _) (Nat.le_refl _) ?_
                rw [if_neg (by omega), if_pos (by omega)]
                exact ⟨rfl, rfl, hC, fun _ _ => rfl⟩
  · refine aw_ldc (n := -1000002) dX8_drawn_7 kc_RX8_146 (by decide) ?_
    refine aw_ireturn dX8_drawn_9 rfl (Nat.le_refl _) (Nat.le_refl _) ?_
    rw [if_pos (by omega)]
    exact ⟨rfl, rfl, hC, fun _ _ => rfl⟩
end DRA
