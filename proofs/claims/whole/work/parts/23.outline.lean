theorem wdg_cg {V : VW} {g g' : Int → Int} {i : Int} (hV : WFv V) (hg : ∀ k, 0 ≤ k → k < V 0 0 → g k = g' k) (h0 : 0 ≤ i) (h1 : i < V 0 0) : wdg V g i = wdg V g' i := by
  obtain ⟨-, -, -, -, -, -, -, -, hi⟩ := hV
  obtain ⟨k1, k2, k3, k4, -⟩ := hi i h0 h1
  unfold wdg
  by_cases e4 : V 1 i = 4
  · rw [if_pos e4, if_pos e4]
  · rw [if_neg e4, if_neg e4]
    by_cases e5 : V 1 i = 5
    · rw [if_pos e5, if_pos e5]
    · rw [if_neg e5, if_neg e5]
      have h3 := k3 (by omega)
      rw [hg _ h3.1 h3.2]
/-- one item is 1 wider -/
def ex1 (w : Int) : Int → Int := fun i => if i = w then 1 else 0
section OUT
variable {t : Tp} {h : Mem}
/-- what stands where, in the three rows behind o -/
def Done (V : VW) (x : Int → Int) (o : Nat) (hh : Mem) (i : Nat) : Prop := ∀ k : Nat, k < i → hh (o + 1) k = (stand V x k).1 ∧ hh (o + 2) k = (stand V x k).2.1 ∧ hh (o + 3) k = (stand V x k).2.2
theorem Done.up {V : VW} {x : Int → Int} {o : Nat} {hh : Mem} {i : Nat} {p l c : Int} (hD : Done V x o hh i) (hp : (p, l, c) = plc V x i (pst V x i)) : Done V x o (am_up (am_up (am_up hh (o + 1) i p) (o + 2) i l) (o + 3) i c) (i + 1) := by
  intro k hk
  by_cases e : k = i
  · subst e
    have es : stand V x k = (p, l, c) := by rw [hp]; unfold stand; rw [show (k : Int).toNat = k from rfl]
    rw [es]
    refine ⟨?_, ?_, ?_⟩
    · rw [am_up_ne (by omega), am_up_ne (by omega)]; simp [am_up]
    · rw [am_up_ne (by omega)]; simp [am_up]
    · simp [am_up]
  · obtain ⟨d1, d2, d3⟩ := hD k (by omega)
    have e2 : ¬ (k : Int) = (i : Int) := by omega
    refine ⟨?_, ?_, ?_⟩
    · rw [am_up_ne (by omega), am_up_ne (by omega), ← d1]; simp [am_up, e2]
    · rw [am_up_ne (by omega), ← d2, show am_up (am_up hh (o + 1) i p) (o + 2) i l (o + 2) k = am_up hh (o + 1) i p (o + 2) k by simp [am_up, e2], am_up_ne (by omega)]
    · rw [← d3, show am_up (am_up (am_up hh (o + 1) i p) (o + 2) i l) (o + 3) i c (o + 3) k = am_up (am_up hh (o + 1) i p) (o + 2) i l (o + 3) k by simp [am_up, e2], am_up_ne (by omega), am_up_ne (by omega)]
set_option maxHeartbeats 2000000 in
theorem l_setOut {Q : Option AV → Tp → Mem → Prop} {o a : Nat} {w : Int} (ho : IsOl t o) (hs : IsSh t a) (hd : o + 3 < a ∨ a + 4 < o) (hst : t.2.1 1000001 = (20, 10)) (hro : RO h) (hV : WFv (cV h a)) (ho6 : o + 3 < 1000000)
    (hk : ∀ hh, FR h hh (o + 1) (o + 3) → Done (cV h a) (ex1 w) o hh (h a 0).toNat → Q none t hh) :
    ∀ (m : Nat) (i : Nat) (hh : Mem), (i : Int) + m = h a 0 → FR h hh (o + 1) (o + 3) → Done (cV h a) (ex1 w) o hh i →
      AW M_X2_setOut 0 0 Q 14 [some (vR o), some (vR a), some (vI w), some (vI (pst (cV h a) (ex1 w) i).1), some (vI (pst (cV h a) (ex1 w) i).2.1), some (vI (pst (cV h a) (ex1 w) i).2.2), some (vI i), none, none] [] t hh 0 0 := by
  obtain ⟨s0, s1, s2, s3, s4, r5, r6, r7, r8, lt⟩ := id hs
  obtain ⟨o0, o1, o2, o3, q0, q1, q2, lt2⟩ := id ho
  have v1 := hV.1
  have v2 := hV.2.1
  have vw := hV.2.2.1
  have vw2 := hV.2.2.2.1
  have vl := hV.2.2.2.2.1
  have vl2 := hV.2.2.2.2.2.1
  have vf := hV.2.2.2.2.2.2.1
  have vf2 := hV.2.2.2.2.2.2.2.1
  rw [cVc] at v1 v2
  rw [cVw] at vw vw2
  rw [cVl] at vl vl2
  rw [cVf] at vf vf2
  intro m
  induction m with
  | zero =>
    intro i hh hi hf hD
    have ea : hh a = h a := hf a (by omega)
    have e1 : (h a 0).toNat = i := by omega
    rw [e1] at hk
    have ec : hh a 0 = (i : Int) := by rw [ea]; omega
    refine aw_iload dX2_setOut_14 rfl ?_
    refine aw_aload_n dX2_setOut_16 rfl ?_
    refine aw_getI dX2_setOut_17 fx_RX2_27 (by first | assumption | rfl) ?_
    refine aw_icmp_ge 161 dX2_setOut_20 rfl (fun c20 => ?_) (fun c20 => ?_)
    · refine aw_return dX2_setOut_161 rfl (Nat.le_refl _) (Nat.le_refl _) ?_
      exact hk hh hf hD
    · exfalso; omega
  | succ m ih =>
    intro i hh hi hf hD
    have ea : hh a = h a := hf a (by omega)
    have ea1 : hh (a + 1) = h (a + 1) := hf _ (by omega)
    have ea3 : hh (a + 3) = h (a + 3) := hf _ (by omega)
    have ec0 : hh a 0 = h a 0 := by rw [ea]
    have ec1 : hh a 1 = h a 1 := by rw [ea]
    have ec2 : hh a 2 = h a 2 := by rw [ea]
    have ek : hh (a + 1) i = h (a + 1) i := by rw [ea1]
    have eV : cV hh a = cV h a := hf.cV (by omega)
    have hro2 : RO hh := hro.fr hf (by omega)
    have hV2 : WFv (cV hh a) := by rw [eV]; exact hV
    have hgg : ∀ k, 0 ≤ k → k < hh a 0 → 0 ≤ hh (a + 3) k ∧ hh (a + 3) k ≤ 99 := by
      intro k k0 k1
      rw [ec0] at k1
      have := hV.2.2.2.2.2.2.2.2 k k0 (by rw [cVc]; exact k1)
      rw [cV3 k0 k1] at this
      rw [ea3]
      omega
    have hwd : wdg (cV hh a) (hh (a + 3)) i = wd (cV h a) i := by
      rw [eV, ea3]
      exact (wdg_cg hV (fun k k0 k1 => cV3 k0 (by rw [cVc] at k1; exact k1)) (by omega) (by rw [cVc]; omega)).symm
    have hwb := wd_bd hV (i := (i : Int)) (by omega) (by rw [cVc]; omega)
    have hxb : ∀ j : Int, 0 ≤ j → 0 ≤ (ex1 w) j ∧ (ex1 w) j ≤ 1 := fun j _ => by
      unfold ex1
      split <;> omega
    have hpb := pst_bd hV hxb i (by rw [cVc]; omega)
    have k1 : cV h a 1 i = h (a + 1) i := cV1 (by omega) (by omega)
    have z := fun hh hf hD => ih (i + 1) hh (by omega) hf hD
    have en : pst (cV h a) (ex1 w) (i + 1) = nxt (cV h a) (ex1 w) i (pst (cV h a) (ex1 w) i) := rfl
    rw [en] at z
    have hpp : ∀ p l c, (p, l, c) = plc (cV h a) (ex1 w) i (pst (cV h a) (ex1 w) i) → 0 ≤ p ∧ p ≤ 200 ∧ 0 ≤ l ∧ l ≤ 10 ∧ 0 ≤ c ∧ c ≤ 300 := by
      intro p l c hp
      have hb := plc_bd hV hxb (n := i) (by rw [cVc]; omega)
      rw [← hp, cVf, cVl] at hb
      simp only [] at hb
      omega
    have hup : ∀ (p l c : Int), (p, l, c) = plc (cV h a) (ex1 w) i (pst (cV h a) (ex1 w) i) → Done (cV h a) (ex1 w) o (am_up (am_up (am_up hh (o + 1) i p) (o + 2) i l) (o + 3) i c) (i + 1) := fun p l c hp => hD.up hp
    rw [cVf, cVl] at hpb
    generalize pst (cV h a) (ex1 w) i = s at hpb z hpp hup ⊢
    have seg : ∀ (p l c b x : Int), (p, l, c) = plc (cV h a) (ex1 w) i s → x = ex1 w i → (h (a + 1) i = 5 ∧ b = 1 ∨ h (a + 1) i ≠ 5 ∧ b = 0) →
        AW M_X2_setOut 0 0 Q 108 [some (vR o), some (vR a), some (vI w), some (vI p), some (vI l), some (vI c), some (vI i), some (vI b), some (vI (wd (cV h a) i + x))] [] t hh 0 0 := by
      intro p l c b x hp hx hb
      have hD2 := hup p l c hp
      have hpl := hpp p l c hp
      have hx2 : 0 ≤ x ∧ x ≤ 1 := by rw [hx]; exact hxb i (by omega)
      have hf2 : FR h (am_up (am_up (am_up hh (o + 1) i p) (o + 2) i l) (o + 3) i c) (o + 1) (o + 3) := fun cc hc => by rw [am_up_ne (by omega), am_up_ne (by omega), am_up_ne (by omega)]; exact hf cc hc
      have y := z _ hf2 hD2
      unfold nxt at y
      rw [← hp, k1, ← hx] at y
      refine aw_aload_n dX2_setOut_108 rfl ?_
      refine aw_getR1 dX2_setOut_109 fx_RX2_9 (by first | assumption | rfl) (by first | assumption | rfl) ?_
      refine aw_iload dX2_setOut_112 rfl ?_
      refine aw_iload_n dX2_setOut_114 rfl ?_
      refine aw_iastore dX2_setOut_115 (by first | assumption | rfl) (by omega) (by omega) (by omega) ?_
      refine aw_aload_n dX2_setOut_116 rfl ?_
      refine aw_getR1 dX2_setOut_117 fx_RX2_15 (by first | assumption | rfl) (by first | assumption | rfl) ?_
      refine aw_iload dX2_setOut_120 rfl ?_
      refine aw_iload dX2_setOut_122 rfl ?_
      refine aw_iastore dX2_setOut_124 (by first | assumption | rfl) (by omega) (by omega) (by omega) ?_
      refine aw_aload_n dX2_setOut_125 rfl ?_
      refine aw_getR1 dX2_setOut_126 fx_RX2_18 (by first | assumption | rfl) (by first | assumption | rfl) ?_
      refine aw_iload dX2_setOut_129 rfl ?_
      refine aw_iload dX2_setOut_131 rfl ?_
      refine aw_iastore dX2_setOut_133 (by first | assumption | rfl) (by omega) (by omega) (by omega) ?_
      refine aw_iload dX2_setOut_134 rfl ?_
      refine aw_iload dX2_setOut_136 rfl ?_
      refine aw_iadd dX2_setOut_138 (by omega) (by omega) ?_
      refine aw_istore (ls' := [_, _, _, _, _, _, _, _, _]) dX2_setOut_139 (by decide) rfl ?_
      refine aw_iload dX2_setOut_141 rfl ?_
      refine aw_if_eq 155 dX2_setOut_143 rfl (fun c143 => ?_) (fun c143 => ?_)
      · refine aw_iinc (ls' := [_, _, _, _, _, _, _, _, _]) dX2_setOut_155 (by decide) rfl (by omega) (by omega) rfl ?_
        refine aw_goto 14 dX2_setOut_158 rfl ?_
        first | (rw [if_pos (by omega)] at y; exact aw_less (by repeat' (first | exact trivial | exact rfl | apply And.intro)) y) | (rw [if_neg (by omega)] at y; exact aw_less (by repeat' (first | exact trivial | exact rfl | apply And.intro)) y)
      · refine aw_iinc (ls' := [_, _, _, _, _, _, _, _, _]) dX2_setOut_146 (by decide) rfl (by omega) (by omega) rfl ?_
        refine aw_iconst dX2_setOut_149 (by decide) (by decide) ?_
        refine aw_istore (ls' := [_, _, _, _, _, _, _, _, _]) dX2_setOut_150 (by decide) rfl ?_
        refine aw_iconst dX2_setOut_152 (by decide) (by decide) ?_
        refine aw_istore (ls' := [_, _, _, _, _, _, _, _, _]) dX2_setOut_153 (by decide) rfl ?_
        refine aw_iinc (ls' := [_, _, _, _, _, _, _, _, _]) dX2_setOut_155 (by decide) rfl (by omega) (by omega) rfl ?_
        refine aw_goto 14 dX2_setOut_158 rfl ?_
        first | (rw [if_pos (by omega)] at y; exact aw_less (by repeat' (first | exact trivial | exact rfl | apply And.intro)) y) | (rw [if_neg (by omega)] at y; exact aw_less (by repeat' (first | exact trivial | exact rfl | apply And.intro)) y)
    refine aw_iload dX2_setOut_14 rfl ?_
    refine aw_aload_n dX2_setOut_16 rfl ?_
    refine aw_getI dX2_setOut_17 fx_RX2_27 (by first | assumption | rfl) ?_
    refine aw_icmp_ge 161 dX2_setOut_20 rfl (fun c20 => ?_) (fun c20 => ?_)
    · exfalso; omega
    · refine aw_aload_n dX2_setOut_23 rfl ?_
      refine aw_getR1 dX2_setOut_24 fx_RX2_30 (by first | assumption | rfl) (by first | assumption | rfl) ?_
      refine aw_iload dX2_setOut_27 rfl ?_
      refine aw_iaload dX2_setOut_29 (by first | assumption | rfl) (by omega) (by omega) ?_
      refine aw_iconst dX2_setOut_30 (by decide) (by decide) ?_
      refine aw_icmp_ne 38 dX2_setOut_31 rfl (fun c31 => ?_) (fun c31 => ?_)
      · refine aw_iconst dX2_setOut_38 (by decide) (by decide) ?_
        refine aw_istore (ls' := [_, _, _, _, _, _, _, _, _]) dX2_setOut_39 (by decide) rfl ?_
        refine aw_aload_n dX2_setOut_41 rfl ?_
        refine aw_aload_n dX2_setOut_42 rfl ?_
        refine aw_getR1 dX2_setOut_43 fx_RX2_33 (by first | assumption | rfl) (by first | assumption | rfl) ?_
        refine aw_iload dX2_setOut_46 rfl ?_
        refine aw_v2i dX2_setOut_48 vl_RX2_36 (by first | assumption | rfl) (Nat.le_of_ble_eq_true rfl) (Nat.le_of_ble_eq_true rfl) (Nat.le_of_ble_eq_true rfl) (Nat.le_refl _) (Nat.le_refl _) (c_X7_wideBy (by first | assumption | exact sh_16 | exact sh_21) (by first | assumption | rfl) (by first | assumption | rfl) (by assumption) (by assumption) (by assumption) (by omega) (by omega)) ?_
        rw [hwd]
        refine aw_iload dX2_setOut_51 rfl ?_
        refine aw_iload_n dX2_setOut_53 rfl ?_
        refine aw_icmp_ne 61 dX2_setOut_54 rfl (fun c54 => ?_) (fun c54 => ?_)
        · have ex : ex1 w i = 0 := if_neg c54
          refine aw_iconst dX2_setOut_61 (by decide) (by decide) ?_
          refine aw_iadd dX2_setOut_62 (by omega) (by omega) ?_
          refine aw_istore (ls' := [_, _, _, _, _, _, _, _, _]) dX2_setOut_63 (by decide) rfl ?_
          refine aw_iload dX2_setOut_65 rfl ?_
          refine aw_if_ne 108 dX2_setOut_67 rfl (fun c67 => ?_) (fun c67 => ?_)
          · refine seg _ _ _ _ _ ?_ ex.symm (by omega)
            unfold plc
            rw [k1, cVw, cVl]
            first | (rw [if_neg (by omega)]; done) | (rw [if_pos (by omega), if_pos (by omega)]; done) | (rw [if_pos (by omega), if_neg (by omega)]; done)
          · refine aw_iload dX2_setOut_70 rfl ?_
            refine aw_if_le 108 dX2_setOut_72 rfl (fun c72 => ?_) (fun c72 => ?_)
            · refine seg _ _ _ _ _ ?_ ex.symm (by omega)
              unfold plc
              rw [k1, cVw, cVl]
              first | (rw [if_neg (by omega)]; done) | (rw [if_pos (by omega), if_pos (by omega)]; done) | (rw [if_pos (by omega), if_neg (by omega)]; done)
            · refine aw_iload dX2_setOut_75 rfl ?_
              refine aw_iload dX2_setOut_77 rfl ?_
              refine aw_iadd dX2_setOut_79 (by omega) (by omega) ?_
              refine aw_aload_n dX2_setOut_80 rfl ?_
              refine aw_getI dX2_setOut_81 fx_RX2_40 (by first | assumption | rfl) ?_
              refine aw_icmp_le 108 dX2_setOut_84 rfl (fun c84 => ?_) (fun c84 => ?_)
              · refine seg _ _ _ _ _ ?_ ex.symm (by omega)
                unfold plc
                rw [k1, cVw, cVl]
                first | (rw [if_neg (by omega)]; done) | (rw [if_pos (by omega), if_pos (by omega)]; done) | (rw [if_pos (by omega), if_neg (by omega)]; done)
              · refine aw_iconst dX2_setOut_87 (by decide) (by decide) ?_
                refine aw_istore (ls' := [_, _, _, _, _, _, _, _, _]) dX2_setOut_88 (by decide) rfl ?_
                refine aw_iinc (ls' := [_, _, _, _, _, _, _, _, _]) dX2_setOut_90 (by decide) rfl (by omega) (by omega) rfl ?_
                refine aw_iload dX2_setOut_93 rfl ?_
                refine aw_aload_n dX2_setOut_95 rfl ?_
                refine aw_getI dX2_setOut_96 fx_RX2_43 (by first | assumption | rfl) ?_
                refine aw_icmp_lt 108 dX2_setOut_99 rfl (fun c99 => ?_) (fun c99 => ?_)
                · refine seg _ _ _ _ _ ?_ ex.symm (by omega)
                  unfold plc
                  rw [k1, cVw, cVl]
                  first | (rw [if_neg (by omega)]; done) | (rw [if_pos (by omega), if_pos (by omega)]; done) | (rw [if_pos (by omega), if_neg (by omega)]; done)
                · refine aw_iconst dX2_setOut_102 (by decide) (by decide) ?_
                  refine aw_istore (ls' := [_, _, _, _, _, _, _, _, _]) dX2_setOut_103 (by decide) rfl ?_
                  refine aw_iinc (ls' := [_, _, _, _, _, _, _, _, _]) dX2_setOut_105 (by decide) rfl (by omega) (by omega) rfl ?_
                  refine seg _ _ _ _ _ ?_ ex.symm (by omega)
                  unfold plc
                  rw [k1, cVw, cVl]
                  first | (rw [if_neg (by omega)]; done) | (rw [if_pos (by omega), if_pos (by omega)]; done) | (rw [if_pos (by omega), if_neg (by omega)]; done)
        · have ex : ex1 w i = 1 := if_pos c54
          refine aw_iconst dX2_setOut_57 (by decide) (by decide) ?_
          refine aw_goto 62 dX2_setOut_58 rfl ?_
          refine aw_iadd dX2_setOut_62 (by omega) (by omega) ?_
          refine aw_istore (ls' := [_, _, _, _, _, _, _, _, _]) dX2_setOut_63 (by decide) rfl ?_
          refine aw_iload dX2_setOut_65 rfl ?_
          refine aw_if_ne 108 dX2_setOut_67 rfl (fun c67 => ?_) (fun c67 => ?_)
          · refine seg _ _ _ _ _ ?_ ex.symm (by omega)
            unfold plc
            rw [k1, cVw, cVl]
            first | (rw [if_neg (by omega)]; done) | (rw [if_pos (by omega), if_pos (by omega)]; done) | (rw [if_pos (by omega), if_neg (by omega)]; done)
          · refine aw_iload dX2_setOut_70 rfl ?_
            refine aw_if_le 108 dX2_setOut_72 rfl (fun c72 => ?_) (fun c72 => ?_)
            · refine seg _ _ _ _ _ ?_ ex.symm (by omega)
              unfold plc
              rw [k1, cVw, cVl]
              first | (rw [if_neg (by omega)]; done) | (rw [if_pos (by omega), if_pos (by omega)]; done) | (rw [if_pos (by omega), if_neg (by omega)]; done)
            · refine aw_iload dX2_setOut_75 rfl ?_
              refine aw_iload dX2_setOut_77 rfl ?_
              refine aw_iadd dX2_setOut_79 (by omega) (by omega) ?_
              refine aw_aload_n dX2_setOut_80 rfl ?_
              refine aw_getI dX2_setOut_81 fx_RX2_40 (by first | assumption | rfl) ?_
              refine aw_icmp_le 108 dX2_setOut_84 rfl (fun c84 => ?_) (fun c84 => ?_)
              · refine seg _ _ _ _ _ ?_ ex.symm (by omega)
                unfold plc
                rw [k1, cVw, cVl]
                first | (rw [if_neg (by omega)]; done) | (rw [if_pos (by omega), if_pos (by omega)]; done) | (rw [if_pos (by omega), if_neg (by omega)]; done)
              · refine aw_iconst dX2_setOut_87 (by decide) (by decide) ?_
                refine aw_istore (ls' := [_, _, _, _, _, _, _, _, _]) dX2_setOut_88 (by decide) rfl ?_
                refine aw_iinc (ls' := [_, _, _, _, _, _, _, _, _]) dX2_setOut_90 (by decide) rfl (by omega) (by omega) rfl ?_
                refine aw_iload dX2_setOut_93 rfl ?_
                refine aw_aload_n dX2_setOut_95 rfl ?_
                refine aw_getI dX2_setOut_96 fx_RX2_43 (by first | assumption | rfl) ?_
                refine aw_icmp_lt 108 dX2_setOut_99 rfl (fun c99 => ?_) (fun c99 => ?_)
                · refine seg _ _ _ _ _ ?_ ex.symm (by omega)
                  unfold plc
                  rw [k1, cVw, cVl]
                  first | (rw [if_neg (by omega)]; done) | (rw [if_pos (by omega), if_pos (by omega)]; done) | (rw [if_pos (by omega), if_neg (by omega)]; done)
                · refine aw_iconst dX2_setOut_102 (by decide) (by decide) ?_
                  refine aw_istore (ls' := [_, _, _, _, _, _, _, _, _]) dX2_setOut_103 (by decide) rfl ?_
                  refine aw_iinc (ls' := [_, _, _, _, _, _, _, _, _]) dX2_setOut_105 (by decide) rfl (by omega) (by omega) rfl ?_
                  refine seg _ _ _ _ _ ?_ ex.symm (by omega)
                  unfold plc
                  rw [k1, cVw, cVl]
                  first | (rw [if_neg (by omega)]; done) | (rw [if_pos (by omega), if_pos (by omega)]; done) | (rw [if_pos (by omega), if_neg (by omega)]; done)
      · refine aw_iconst dX2_setOut_34 (by decide) (by decide) ?_
        refine aw_goto 39 dX2_setOut_35 rfl ?_
        refine aw_istore (ls' := [_, _, _, _, _, _, _, _, _]) dX2_setOut_39 (by decide) rfl ?_
        refine aw_aload_n dX2_setOut_41 rfl ?_
        refine aw_aload_n dX2_setOut_42 rfl ?_
        refine aw_getR1 dX2_setOut_43 fx_RX2_33 (by first | assumption | rfl) (by first | assumption | rfl) ?_
        refine aw_iload dX2_setOut_46 rfl ?_
        refine aw_v2i dX2_setOut_48 vl_RX2_36 (by first | assumption | rfl) (Nat.le_of_ble_eq_true rfl) (Nat.le_of_ble_eq_true rfl) (Nat.le_of_ble_eq_true rfl) (Nat.le_refl _) (Nat.le_refl _) (c_X7_wideBy (by first | assumption | exact sh_16 | exact sh_21) (by first | assumption | rfl) (by first | assumption | rfl) (by assumption) (by assumption) (by assumption) (by omega) (by omega)) ?_
        rw [hwd]
        refine aw_iload dX2_setOut_51 rfl ?_
        refine aw_iload_n dX2_setOut_53 rfl ?_
        refine aw_icmp_ne 61 dX2_setOut_54 rfl (fun c54 => ?_) (fun c54 => ?_)
        · have ex : ex1 w i = 0 := if_neg c54
          refine aw_iconst dX2_setOut_61 (by decide) (by decide) ?_
          refine aw_iadd dX2_setOut_62 (by omega) (by omega) ?_
          refine aw_istore (ls' := [_, _, _, _, _, _, _, _, _]) dX2_setOut_63 (by decide) rfl ?_
          refine aw_iload dX2_setOut_65 rfl ?_
          refine aw_if_ne 108 dX2_setOut_67 rfl (fun c67 => ?_) (fun c67 => ?_)
          · refine seg _ _ _ _ _ ?_ ex.symm (by omega)
            unfold plc
            rw [k1, cVw, cVl]
            first | (rw [if_neg (by omega)]; done) | (rw [if_pos (by omega), if_pos (by omega)]; done) | (rw [if_pos (by omega), if_neg (by omega)]; done)
          · refine aw_iload dX2_setOut_70 rfl ?_
            refine aw_if_le 108 dX2_setOut_72 rfl (fun c72 => ?_) (fun c72 => ?_)
            · refine seg _ _ _ _ _ ?_ ex.symm (by omega)
              unfold plc
              rw [k1, cVw, cVl]
              first | (rw [if_neg (by omega)]; done) | (rw [if_pos (by omega), if_pos (by omega)]; done) | (rw [if_pos (by omega), if_neg (by omega)]; done)
            · refine aw_iload dX2_setOut_75 rfl ?_
              refine aw_iload dX2_setOut_77 rfl ?_
              refine aw_iadd dX2_setOut_79 (by omega) (by omega) ?_
              refine aw_aload_n dX2_setOut_80 rfl ?_
              refine aw_getI dX2_setOut_81 fx_RX2_40 (by first | assumption | rfl) ?_
              refine aw_icmp_le 108 dX2_setOut_84 rfl (fun c84 => ?_) (fun c84 => ?_)
              · refine seg _ _ _ _ _ ?_ ex.symm (by omega)
                unfold plc
                rw [k1, cVw, cVl]
                first | (rw [if_neg (by omega)]; done) | (rw [if_pos (by omega), if_pos (by omega)]; done) | (rw [if_pos (by omega), if_neg (by omega)]; done)
              · refine aw_iconst dX2_setOut_87 (by decide) (by decide) ?_
                refine aw_istore (ls' := [_, _, _, _, _, _, _, _, _]) dX2_setOut_88 (by decide) rfl ?_
                refine aw_iinc (ls' := [_, _, _, _, _, _, _, _, _]) dX2_setOut_90 (by decide) rfl (by omega) (by omega) rfl ?_
                refine aw_iload dX2_setOut_93 rfl ?_
                refine aw_aload_n dX2_setOut_95 rfl ?_
                refine aw_getI dX2_setOut_96 fx_RX2_43 (by first | assumption | rfl) ?_
                refine aw_icmp_lt 108 dX2_setOut_99 rfl (fun c99 => ?_) (fun c99 => ?_)
                · refine seg _ _ _ _ _ ?_ ex.symm (by omega)
                  unfold plc
                  rw [k1, cVw, cVl]
                  first | (rw [if_neg (by omega)]; done) | (rw [if_pos (by omega), if_pos (by omega)]; done) | (rw [if_pos (by omega), if_neg (by omega)]; done)
                · refine aw_iconst dX2_setOut_102 (by decide) (by decide) ?_
                  refine aw_istore (ls' := [_, _, _, _, _, _, _, _, _]) dX2_setOut_103 (by decide) rfl ?_
                  refine aw_iinc (ls' := [_, _, _, _, _, _, _, _, _]) dX2_setOut_105 (by decide) rfl (by omega) (by omega) rfl ?_
                  refine seg _ _ _ _ _ ?_ ex.symm (by omega)
                  unfold plc
                  rw [k1, cVw, cVl]
                  first | (rw [if_neg (by omega)]; done) | (rw [if_pos (by omega), if_pos (by omega)]; done) | (rw [if_pos (by omega), if_neg (by omega)]; done)
        · have ex : ex1 w i = 1 := if_pos c54
          refine aw_iconst dX2_setOut_57 (by decide) (by decide) ?_
          refine aw_goto 62 dX2_setOut_58 rfl ?_
          refine aw_iadd dX2_setOut_62 (by omega) (by omega) ?_
          refine aw_istore (ls' := [_, _, _, _, _, _, _, _, _]) dX2_setOut_63 (by decide) rfl ?_
          refine aw_iload dX2_setOut_65 rfl ?_
          refine aw_if_ne 108 dX2_setOut_67 rfl (fun c67 => ?_) (fun c67 => ?_)
          · refine seg _ _ _ _ _ ?_ ex.symm (by omega)
            unfold plc
            rw [k1, cVw, cVl]
            first | (rw [if_neg (by omega)]; done) | (rw [if_pos (by omega), if_pos (by omega)]; done) | (rw [if_pos (by omega), if_neg (by omega)]; done)
          · refine aw_iload dX2_setOut_70 rfl ?_
            refine aw_if_le 108 dX2_setOut_72 rfl (fun c72 => ?_) (fun c72 => ?_)
            · refine seg _ _ _ _ _ ?_ ex.symm (by omega)
              unfold plc
              rw [k1, cVw, cVl]
              first | (rw [if_neg (by omega)]; done) | (rw [if_pos (by omega), if_pos (by omega)]; done) | (rw [if_pos (by omega), if_neg (by omega)]; done)
            · refine aw_iload dX2_setOut_75 rfl ?_
              refine aw_iload dX2_setOut_77 rfl ?_
              refine aw_iadd dX2_setOut_79 (by omega) (by omega) ?_
              refine aw_aload_n dX2_setOut_80 rfl ?_
              refine aw_getI dX2_setOut_81 fx_RX2_40 (by first | assumption | rfl) ?_
              refine aw_icmp_le 108 dX2_setOut_84 rfl (fun c84 => ?_) (fun c84 => ?_)
              · refine seg _ _ _ _ _ ?_ ex.symm (by omega)
                unfold plc
                rw [k1, cVw, cVl]
                first | (rw [if_neg (by omega)]; done) | (rw [if_pos (by omega), if_pos (by omega)]; done) | (rw [if_pos (by omega), if_neg (by omega)]; done)
              · refine aw_iconst dX2_setOut_87 (by decide) (by decide) ?_
                refine aw_istore (ls' := [_, _, _, _, _, _, _, _, _]) dX2_setOut_88 (by decide) rfl ?_
                refine aw_iinc (ls' := [_, _, _, _, _, _, _, _, _]) dX2_setOut_90 (by decide) rfl (by omega) (by omega) rfl ?_
                refine aw_iload dX2_setOut_93 rfl ?_
                refine aw_aload_n dX2_setOut_95 rfl ?_
                refine aw_getI dX2_setOut_96 fx_RX2_43 (by first | assumption | rfl) ?_
                refine aw_icmp_lt 108 dX2_setOut_99 rfl (fun c99 => ?_) (fun c99 => ?_)
                · refine seg _ _ _ _ _ ?_ ex.symm (by omega)
                  unfold plc
                  rw [k1, cVw, cVl]
                  first | (rw [if_neg (by omega)]; done) | (rw [if_pos (by omega), if_pos (by omega)]; done) | (rw [if_pos (by omega), if_neg (by omega)]; done)
                · refine aw_iconst dX2_setOut_102 (by decide) (by decide) ?_
                  refine aw_istore (ls' := [_, _, _, _, _, _, _, _, _]) dX2_setOut_103 (by decide) rfl ?_
                  refine aw_iinc (ls' := [_, _, _, _, _, _, _, _, _]) dX2_setOut_105 (by decide) rfl (by omega) (by omega) rfl ?_
                  refine seg _ _ _ _ _ ?_ ex.symm (by omega)
                  unfold plc
                  rw [k1, cVw, cVl]
                  first | (rw [if_neg (by omega)]; done) | (rw [if_pos (by omega), if_pos (by omega)]; done) | (rw [if_pos (by omega), if_neg (by omega)]; done)
set_option maxHeartbeats 1000000 in
theorem c_X2_setOut {o a : Nat} {w : Int} (ho : IsOl t o) (hs : IsSh t a) (hd : o + 3 < a ∨ a + 4 < o) (hst : t.2.1 1000001 = (20, 10)) (hro : RO h) (hV : WFv (cV h a)) :
    Sem M_X2_setOut [vR o, vR a, vI w] t h 0 0 (fun v t' h' => v = none ∧ t' = t ∧ FR h h' (o + 1) (o + 3) ∧ Done (cV h a) (ex1 w) o h' (h a 0).toNat) := by
  obtain ⟨s0, s1, s2, s3, s4, r5, r6, r7, r8, lt⟩ := id hs
  have v1 := hV.1
  rw [cVc] at v1
  refine sem_intro (by decide) rfl (Nat.le_of_ble_eq_true rfl) rfl ?_
  refine aw_aload_n dX2_setOut_0 rfl ?_
  refine aw_getI dX2_setOut_1 fx_RX2_21 (by first | assumption | rfl) ?_
  refine aw_istore_n (ls' := [_, _, _, _, _, _, _, _, _]) dX2_setOut_4 (by decide) rfl ?_
  refine aw_iconst dX2_setOut_5 (by decide) (by decide) ?_
  refine aw_istore (ls' := [_, _, _, _, _, _, _, _, _]) dX2_setOut_6 (by decide) rfl ?_
  refine aw_iconst dX2_setOut_8 (by decide) (by decide) ?_
  refine aw_istore (ls' := [_, _, _, _, _, _, _, _, _]) dX2_setOut_9 (by decide) rfl ?_
  refine aw_iconst dX2_setOut_11 (by decide) (by decide) ?_
  refine aw_istore (ls' := [_, _, _, _, _, _, _, _, _]) dX2_setOut_12 (by decide) rfl ?_
  have z := l_setOut (Q := fun v t' h' => v = none ∧ t' = t ∧ FR h h' (o + 1) (o + 3) ∧ Done (cV h a) (ex1 w) o h' (h a 0).toNat) (w := w) ho hs hd hst hro hV (ho.2.2.2.2.2.2.2) (fun hh f1 f2 => ⟨rfl, rfl, f1, f2⟩) (h a 0).toNat 0 h (by omega) FR.rf (fun k hk => absurd hk (by omega))
  refine aw_less ?_ z
  refine ⟨rfl, rfl, rfl, ?_, rfl, rfl, rfl, trivial, trivial, trivial⟩
  show some (vI (h a 3)) = some (vI (cV h a 0 3))
  rw [cVf]
theorem c_X2_hasElsewhere {o p : Nat} {i : Int} (ho : IsOl t o) (hp : IsOl t p) (h0 : 0 ≤ i) (h1 : i < 12) :
    SemE M_X2_hasElsewhere [vR o, vI i, vR p] t h (some (vI (if h (o + 1) i = h (p + 1) i ∧ h (o + 2) i = h (p + 2) i ∧ h (o + 3) i = h (p + 3) i then 0 else 1))) t h := by
  obtain ⟨o0, o1, o2, o3, q0, q1, q2, lt2⟩ := id ho
  obtain ⟨u0, u1, u2, u3, w0, w1, w2, lt3⟩ := id hp
  refine sem_intro (by decide) rfl (Nat.le_of_ble_eq_true rfl) rfl ?_
  refine aw_aload_n dX2_hasElsewhere_0 rfl ?_
  refine aw_getR1 dX2_hasElsewhere_1 fx_RX2_9 (by first | assumption | rfl) (by first | assumption | rfl) ?_
  refine aw_iload_n dX2_hasElsewhere_4 rfl ?_
  refine aw_iaload dX2_hasElsewhere_5 (by first | assumption | rfl) (by omega) (by omega) ?_
  refine aw_aload_n dX2_hasElsewhere_6 rfl ?_
  refine aw_getR1 dX2_hasElsewhere_7 fx_RX2_9 (by first | assumption | rfl) (by first | assumption | rfl) ?_
  refine aw_iload_n dX2_hasElsewhere_10 rfl ?_
  refine aw_iaload dX2_hasElsewhere_11 (by first | assumption | rfl) (by omega) (by omega) ?_
  refine aw_icmp_ne 45 dX2_hasElsewhere_12 rfl (fun c12 => ?_) (fun c12 => ?_)
  · refine aw_iconst dX2_hasElsewhere_45 (by decide) (by decide) ?_
    refine aw_goto 50 dX2_hasElsewhere_46 rfl ?_
    refine aw_zreturn dX2_hasElsewhere_50 rfl (Nat.le_refl _) (Nat.le_refl _) (by first | decide | omega) (by first | decide | omega) ?_
    exact ⟨am_ri (by split <;> omega), rfl, rfl⟩
  · refine aw_aload_n dX2_hasElsewhere_15 rfl ?_
    refine aw_getR1 dX2_hasElsewhere_16 fx_RX2_15 (by first | assumption | rfl) (by first | assumption | rfl) ?_
    refine aw_iload_n dX2_hasElsewhere_19 rfl ?_
    refine aw_iaload dX2_hasElsewhere_20 (by first | assumption | rfl) (by omega) (by omega) ?_
    refine aw_aload_n dX2_hasElsewhere_21 rfl ?_
    refine aw_getR1 dX2_hasElsewhere_22 fx_RX2_15 (by first | assumption | rfl) (by first | assumption | rfl) ?_
    refine aw_iload_n dX2_hasElsewhere_25 rfl ?_
    refine aw_iaload dX2_hasElsewhere_26 (by first | assumption | rfl) (by omega) (by omega) ?_
    refine aw_icmp_ne 45 dX2_hasElsewhere_27 rfl (fun c27 => ?_) (fun c27 => ?_)
    · refine aw_iconst dX2_hasElsewhere_45 (by decide) (by decide) ?_
      refine aw_goto 50 dX2_hasElsewhere_46 rfl ?_
      refine aw_zreturn dX2_hasElsewhere_50 rfl (Nat.le_refl _) (Nat.le_refl _) (by first | decide | omega) (by first | decide | omega) ?_
      exact ⟨am_ri (by split <;> omega), rfl, rfl⟩
    · refine aw_aload_n dX2_hasElsewhere_30 rfl ?_
      refine aw_getR1 dX2_hasElsewhere_31 fx_RX2_18 (by first | assumption | rfl) (by first | assumption | rfl) ?_
      refine aw_iload_n dX2_hasElsewhere_34 rfl ?_
      refine aw_iaload dX2_hasElsewhere_35 (by first | assumption | rfl) (by omega) (by omega) ?_
      refine aw_aload_n dX2_hasElsewhere_36 rfl ?_
      refine aw_getR1 dX2_hasElsewhere_37 fx_RX2_18 (by first | assumption | rfl) (by first | assumption | rfl) ?_
      refine aw_iload_n dX2_hasElsewhere_40 rfl ?_
      refine aw_iaload dX2_hasElsewhere_41 (by first | assumption | rfl) (by omega) (by omega) ?_
      refine aw_icmp_eq 49 dX2_hasElsewhere_42 rfl (fun c42 => ?_) (fun c42 => ?_)
      · refine aw_iconst dX2_hasElsewhere_49 (by decide) (by decide) ?_
        refine aw_zreturn dX2_hasElsewhere_50 rfl (Nat.le_refl _) (Nat.le_refl _) (by first | decide | omega) (by first | decide | omega) ?_
        exact ⟨am_ri (by split <;> omega), rfl, rfl⟩
      · refine aw_iconst dX2_hasElsewhere_45 (by decide) (by decide) ?_
        refine aw_goto 50 dX2_hasElsewhere_46 rfl ?_
        refine aw_zreturn dX2_hasElsewhere_50 rfl (Nat.le_refl _) (Nat.le_refl _) (by first | decide | omega) (by first | decide | omega) ?_
        exact ⟨am_ri (by split <;> omega), rfl, rfl⟩
end OUT
