def xx (w b : Int) : Int → Int := fun i => if i = w then b else 0
def Dn (V : VW) (x : Int → Int) (h : Mem) (k : Nat) : Prop := ∀ j : Nat, j < k → h 385 (3 * j) = (stand V x j).1 ∧ h 385 (3 * j + 1) = (stand V x j).2.1 ∧ h 385 (3 * j + 2) = (stand V x j).2.2
section MO3
variable {e q n L : Nat} {h : Mem} {V : VW} {a : Nat}
set_option maxHeartbeats 4000000 in
theorem l_setsOut {Q : Option AV → Tp → Mem → Prop} {w b : Int} {N : Nat} (sa : (TT e q n L).2.1 a = (20, 53)) (ha : a ≠ 385) (ev : mV h a 0 = V) (hV : WFv V) (hb : 0 ≤ b ∧ b ≤ 1) (hN : V 0 0 = (N : Int)) (hk : ∀ hh, (∀ c, c ≠ 385 → hh c = h c) → Dn V (xx w b) hh N → Q none (TT e q n L) hh) :
    ∀ (m k : Nat) (hh : Mem), k + m = N → (∀ c, c ≠ 385 → hh c = h c) → Dn V (xx w b) hh k → AW M_X9_setsOut 0 0 Q 14 [some (vR 373), some (vR a), some (vI w), some (vI b), some (vI (pst V (xx w b) k).1), some (vI (pst V (xx w b) k).2.1), some (vI (pst V (xx w b) k).2.2), some (vI k), none, none] [] (TT e q n L) hh 0 0 := by
  have v2 := hV.2.1
  have hx : ∀ i, 0 ≤ i → 0 ≤ xx w b i ∧ xx w b i ≤ 1 := fun i _ => by unfold xx; split <;> omega
  intro m
  induction m with
  | zero =>
    intro k hh hi hf hD
    have ek : k = N := by omega
    subst ek
    have ea : hh a 3 = k := by rw [hf a ha, mA_c ev, hN]
    refine aw_iload dX9_setsOut_14 rfl ?_
    refine aw_aload_n dX9_setsOut_16 rfl ?_
    refine aw_iconst dX9_setsOut_17 (by decide) (by decide) ?_
    refine aw_iaload dX9_setsOut_18 (by first | rfl | assumption) (by omega) (by omega) ?_
    rw [ea]
    refine aw_icmp_ge 166 dX9_setsOut_19 rfl (fun c19 => ?_) (fun c19 => ?_)
    · refine aw_return dX9_setsOut_166 rfl (Nat.le_refl _) (Nat.le_refl _) ?_
      exact hk hh hf hD
    · exfalso; omega
  | succ m ih =>
    intro k hh hi hf hD
    have ea : hh a 3 = N := by rw [hf a ha, mA_c ev, hN]
    have ev2 : mV hh a 0 = V := by unfold mV mS; rw [hf a ha]; exact ev
    have e0 : hh a 0 = V 0 1 := mA_w ev2
    have e1 : hh a 1 = V 0 2 := mA_l ev2
    have ek : hh a (5 + 4 * k) = V 1 k := mA1 ev2 (by omega) (by omega)
    obtain ⟨a1, a2, a3, a4, a5, a6, a7⟩ := pst_bd hV hx k (by omega)
    have wb := wd_bd hV (i := (k : Int)) (by omega) (by omega)
    have hxk := hx k (by omega)
    have vl := hV.2.2.2.2.1
    have vl5 := hV.2.2.2.2.2.1
    have vf := hV.2.2.2.2.2.2.2.1
    have vf1 := hV.2.2.2.2.2.2.1
    have vw := hV.2.2.1
    have vw1 := hV.2.2.2.1
    have z := ih (k + 1)
    have ep : pst V (xx w b) (k + 1) = nxt V (xx w b) k (pst V (xx w b) k) := rfl
    have es : stand V (xx w b) k = plc V (xx w b) k (pst V (xx w b) k) := by unfold stand; rw [Int.toNat_natCast]
    have pb := plc_bd hV hx (n := k) (by omega)
    rw [ep] at z
    have tl : ∀ (P Ln C its ib : Int), plc V (xx w b) k (pst V (xx w b) k) = (P, Ln, C) → its = wd V k + xx w b k → ((V 1 k = 5 ∧ ib = 1) ∨ (V 1 k ≠ 5 ∧ ib = 0)) → AW M_X9_setsOut 0 0 Q 102 [some (vR 373), some (vR a), some (vI w), some (vI b), some (vI P), some (vI Ln), some (vI C), some (vI k), some (vI its), some (vI ib)] [] (TT e q n L) hh 0 0 := by
      intro P Ln C its ib hp hits hib
      rw [hp] at es pb
      simp only at pb
      have en : nxt V (xx w b) k (pst V (xx w b) k) = if V 1 k = 5 then (P + 1, 0, 0) else (P, Ln, C + its) := by unfold nxt; rw [hp, ← hits]
      rw [en] at z
      have dn : ∀ hh2 : Mem, hh2 = am_up (am_up (am_up hh 385 (3 * k) P) 385 (3 * k + 1) Ln) 385 (3 * k + 2) C → (∀ c, c ≠ 385 → hh2 c = h c) ∧ Dn V (xx w b) hh2 (k + 1) := by
        intro hh2 e2
        subst e2
        refine ⟨fun c hc => by rw [am_up_ne hc, am_up_ne hc, am_up_ne hc]; exact hf c hc, fun j hj => ?_⟩
        by_cases y : j = k
        · subst y
          rw [es]
          unfold am_up
          refine ⟨?_, ?_, ?_⟩
          · rw [if_neg (by omega), if_neg (by omega), if_pos ⟨rfl, rfl⟩]
          · rw [if_neg (by omega), if_pos ⟨rfl, rfl⟩]
          · rw [if_pos ⟨rfl, rfl⟩]
        · have := hD j (by omega)
          unfold am_up
          rw [if_neg (by omega), if_neg (by omega), if_neg (by omega), if_neg (by omega), if_neg (by omega), if_neg (by omega), if_neg (by omega), if_neg (by omega), if_neg (by omega)]
          exact this
      refine aw_aload_n dX9_setsOut_102 rfl ?_
      refine aw_getR1 dX9_setsOut_103 fx_RX9_44 (by first | rfl | assumption) (by first | rfl | assumption) ?_
      refine aw_iconst dX9_setsOut_106 (by decide) (by decide) ?_
      refine aw_iload dX9_setsOut_107 rfl ?_
      refine aw_imul dX9_setsOut_109 (by omega) (by omega) ?_
      refine aw_iload dX9_setsOut_110 rfl ?_
      refine aw_iastore dX9_setsOut_112 (by first | rfl | assumption) (by omega) (by omega) (by omega) ?_
      refine aw_aload_n dX9_setsOut_113 rfl ?_
      refine aw_getR1 dX9_setsOut_114 fx_RX9_44 (by first | rfl | assumption) (by first | rfl | assumption) ?_
      refine aw_iconst dX9_setsOut_117 (by decide) (by decide) ?_
      refine aw_iload dX9_setsOut_118 rfl ?_
      refine aw_imul dX9_setsOut_120 (by omega) (by omega) ?_
      refine aw_iconst dX9_setsOut_121 (by decide) (by decide) ?_
      refine aw_iadd dX9_setsOut_122 (by omega) (by omega) ?_
      refine aw_iload dX9_setsOut_123 rfl ?_
      refine aw_iastore dX9_setsOut_125 (by first | rfl | assumption) (by omega) (by omega) (by omega) ?_
      refine aw_aload_n dX9_setsOut_126 rfl ?_
      refine aw_getR1 dX9_setsOut_127 fx_RX9_44 (by first | rfl | assumption) (by first | rfl | assumption) ?_
      refine aw_iconst dX9_setsOut_130 (by decide) (by decide) ?_
      refine aw_iload dX9_setsOut_131 rfl ?_
      refine aw_imul dX9_setsOut_133 (by omega) (by omega) ?_
      refine aw_iconst dX9_setsOut_134 (by decide) (by decide) ?_
      refine aw_iadd dX9_setsOut_135 (by omega) (by omega) ?_
      refine aw_iload dX9_setsOut_136 rfl ?_
      refine aw_iastore dX9_setsOut_138 (by first | rfl | assumption) (by omega) (by omega) (by omega) ?_
      refine aw_iload dX9_setsOut_139 rfl ?_
      refine aw_iload dX9_setsOut_141 rfl ?_
      refine aw_iadd dX9_setsOut_143 (by omega) (by omega) ?_
      refine aw_istore (ls' := [_, _, _, _, _, _, _, _, _, _]) dX9_setsOut_144 (by decide) rfl ?_
      refine aw_iload dX9_setsOut_146 rfl ?_
      refine aw_if_eq 160 dX9_setsOut_148 rfl (fun c148 => ?_) (fun c148 => ?_)
      · refine aw_iinc (ls' := [_, _, _, _, _, _, _, _, _, _]) dX9_setsOut_160 (by decide) rfl (by omega) (by omega) rfl ?_
        refine aw_goto 14 dX9_setsOut_163 rfl ?_
        obtain ⟨d1, d2⟩ := dn _ rfl
        have z2 := z _ (by omega) d1 d2
        first | (rw [if_neg (by omega)] at z2; exact aw_less (by repeat' (first | exact trivial | exact rfl | apply And.intro)) z2) | (rw [if_pos (by omega)] at z2; exact aw_less (by repeat' (first | exact trivial | exact rfl | apply And.intro)) z2)
      · refine aw_iinc (ls' := [_, _, _, _, _, _, _, _, _, _]) dX9_setsOut_151 (by decide) rfl (by omega) (by omega) rfl ?_
        refine aw_iconst dX9_setsOut_154 (by decide) (by decide) ?_
        refine aw_istore (ls' := [_, _, _, _, _, _, _, _, _, _]) dX9_setsOut_155 (by decide) rfl ?_
        refine aw_iconst dX9_setsOut_157 (by decide) (by decide) ?_
        refine aw_istore (ls' := [_, _, _, _, _, _, _, _, _, _]) dX9_setsOut_158 (by decide) rfl ?_
        refine aw_iinc (ls' := [_, _, _, _, _, _, _, _, _, _]) dX9_setsOut_160 (by decide) rfl (by omega) (by omega) rfl ?_
        refine aw_goto 14 dX9_setsOut_163 rfl ?_
        obtain ⟨d1, d2⟩ := dn _ rfl
        have z2 := z _ (by omega) d1 d2
        first | (rw [if_neg (by omega)] at z2; exact aw_less (by repeat' (first | exact trivial | exact rfl | apply And.intro)) z2) | (rw [if_pos (by omega)] at z2; exact aw_less (by repeat' (first | exact trivial | exact rfl | apply And.intro)) z2)
    obtain ⟨P0, L0, C0, hpst⟩ : ∃ P0 L0 C0, pst V (xx w b) k = (P0, L0, C0) := ⟨_, _, _, rfl⟩
    rw [hpst] at tl a1 a2 a3 a4 a5 a6 a7
    rw [hpst]
    simp only at a1 a2 a3 a4 a5 a6 a7
    dsimp only
    clear pb ih z es ep
    have ex0 : (k : Int) ≠ w → xx w b k = 0 := fun y => if_neg y
    have ex1 : (k : Int) = w → xx w b k = b := fun y => if_pos y
    have pd : plc V (xx w b) k (P0, L0, C0) = if V 1 k ≠ 5 ∧ 0 < C0 ∧ V 0 1 < C0 + (wd V k + xx w b k) then (if V 0 2 ≤ L0 + 1 then (P0 + 1, 0, 0) else (P0, L0 + 1, 0)) else (P0, L0, C0) := rfl
    have ew1 : (k : Int) = w → wd V k + b = wd V k + xx w b k := fun y => by rw [ex1 y]
    have ew0 : (k : Int) ≠ w → wd V k + 0 = wd V k + xx w b k := fun y => by rw [ex0 y]
    refine aw_iload dX9_setsOut_14 rfl ?_
    refine aw_aload_n dX9_setsOut_16 rfl ?_
    refine aw_iconst dX9_setsOut_17 (by decide) (by decide) ?_
    refine aw_iaload dX9_setsOut_18 (by first | rfl | assumption) (by omega) (by omega) ?_
    rw [ea]
    refine aw_icmp_ge 166 dX9_setsOut_19 rfl (fun c19 => ?_) (fun c19 => ?_)
    · exfalso; omega
    · refine aw_aload_n dX9_setsOut_22 rfl ?_
      refine aw_iload dX9_setsOut_23 rfl ?_
      refine aw_s2i dX9_setsOut_25 sl_RX9_158 (Nat.le_of_ble_eq_true rfl) (Nat.le_of_ble_eq_true rfl) (Nat.le_of_ble_eq_true rfl) (Nat.le_refl _) (Nat.le_refl _) (c_X9_wide sa ev2 hV (by omega) (by omega)) ?_
      refine aw_iload dX9_setsOut_28 rfl ?_
      refine aw_iload_n dX9_setsOut_30 rfl ?_
      refine aw_icmp_ne 38 dX9_setsOut_31 rfl (fun c31 => ?_) (fun c31 => ?_)
      · refine aw_iconst dX9_setsOut_38 (by decide) (by decide) ?_
        refine aw_iadd dX9_setsOut_39 (by omega) (by omega) ?_
        first | rw [ew1 (by omega)] | rw [ew0 (by omega)]
        refine aw_istore (ls' := [_, _, _, _, _, _, _, _, _, _]) dX9_setsOut_40 (by decide) rfl ?_
        refine aw_aload_n dX9_setsOut_42 rfl ?_
        refine aw_iconst dX9_setsOut_43 (by decide) (by decide) ?_
        refine aw_iconst dX9_setsOut_44 (by decide) (by decide) ?_
        refine aw_iload dX9_setsOut_45 rfl ?_
        refine aw_imul dX9_setsOut_47 (by omega) (by omega) ?_
        refine aw_iadd dX9_setsOut_48 (by omega) (by omega) ?_
        refine aw_iaload dX9_setsOut_49 (by first | rfl | assumption) (by omega) (by omega) ?_
        rw [ek]
        refine aw_iconst dX9_setsOut_50 (by decide) (by decide) ?_
        refine aw_icmp_ne 58 dX9_setsOut_51 rfl (fun c51 => ?_) (fun c51 => ?_)
        · refine aw_iconst dX9_setsOut_58 (by decide) (by decide) ?_
          refine aw_istore (ls' := [_, _, _, _, _, _, _, _, _, _]) dX9_setsOut_59 (by decide) rfl ?_
          refine aw_iload dX9_setsOut_61 rfl ?_
          refine aw_if_ne 102 dX9_setsOut_63 rfl (fun c63 => ?_) (fun c63 => ?_)
          · refine tl _ _ _ _ _ ?_ rfl ?_
            · rw [pd]
              first | (rw [if_neg (by omega)]; done) | (rw [if_pos (by omega), if_pos (by omega)]; done) | (rw [if_pos (by omega), if_neg (by omega)]; done)
            · omega
          · refine aw_iload dX9_setsOut_66 rfl ?_
            refine aw_if_le 102 dX9_setsOut_68 rfl (fun c68 => ?_) (fun c68 => ?_)
            · refine tl _ _ _ _ _ ?_ rfl ?_
              · rw [pd]
                first | (rw [if_neg (by omega)]; done) | (rw [if_pos (by omega), if_pos (by omega)]; done) | (rw [if_pos (by omega), if_neg (by omega)]; done)
              · omega
            · refine aw_iload dX9_setsOut_71 rfl ?_
              refine aw_iload dX9_setsOut_73 rfl ?_
              refine aw_iadd dX9_setsOut_75 (by omega) (by omega) ?_
              refine aw_aload_n dX9_setsOut_76 rfl ?_
              refine aw_iconst dX9_setsOut_77 (by decide) (by decide) ?_
              refine aw_iaload dX9_setsOut_78 (by first | rfl | assumption) (by omega) (by omega) ?_
              rw [e0]
              refine aw_icmp_le 102 dX9_setsOut_79 rfl (fun c79 => ?_) (fun c79 => ?_)
              · refine tl _ _ _ _ _ ?_ rfl ?_
                · rw [pd]
                  first | (rw [if_neg (by omega)]; done) | (rw [if_pos (by omega), if_pos (by omega)]; done) | (rw [if_pos (by omega), if_neg (by omega)]; done)
                · omega
              · refine aw_iconst dX9_setsOut_82 (by decide) (by decide) ?_
                refine aw_istore (ls' := [_, _, _, _, _, _, _, _, _, _]) dX9_setsOut_83 (by decide) rfl ?_
                refine aw_iinc (ls' := [_, _, _, _, _, _, _, _, _, _]) dX9_setsOut_85 (by decide) rfl (by omega) (by omega) rfl ?_
                refine aw_iload dX9_setsOut_88 rfl ?_
                refine aw_aload_n dX9_setsOut_90 rfl ?_
                refine aw_iconst dX9_setsOut_91 (by decide) (by decide) ?_
                refine aw_iaload dX9_setsOut_92 (by first | rfl | assumption) (by omega) (by omega) ?_
                rw [e1]
                refine aw_icmp_ne 102 dX9_setsOut_93 rfl (fun c93 => ?_) (fun c93 => ?_)
                · refine tl _ _ _ _ _ ?_ rfl ?_
                  · rw [pd]
                    first | (rw [if_neg (by omega)]; done) | (rw [if_pos (by omega), if_pos (by omega)]; done) | (rw [if_pos (by omega), if_neg (by omega)]; done)
                  · omega
                · refine aw_iconst dX9_setsOut_96 (by decide) (by decide) ?_
                  refine aw_istore (ls' := [_, _, _, _, _, _, _, _, _, _]) dX9_setsOut_97 (by decide) rfl ?_
                  refine aw_iinc (ls' := [_, _, _, _, _, _, _, _, _, _]) dX9_setsOut_99 (by decide) rfl (by omega) (by omega) rfl ?_
                  refine tl _ _ _ _ _ ?_ rfl ?_
                  · rw [pd]
                    first | (rw [if_neg (by omega)]; done) | (rw [if_pos (by omega), if_pos (by omega)]; done) | (rw [if_pos (by omega), if_neg (by omega)]; done)
                  · omega
        · refine aw_iconst dX9_setsOut_54 (by decide) (by decide) ?_
          refine aw_goto 59 dX9_setsOut_55 rfl ?_
          refine aw_istore (ls' := [_, _, _, _, _, _, _, _, _, _]) dX9_setsOut_59 (by decide) rfl ?_
          refine aw_iload dX9_setsOut_61 rfl ?_
          refine aw_if_ne 102 dX9_setsOut_63 rfl (fun c63 => ?_) (fun c63 => ?_)
          · refine tl _ _ _ _ _ ?_ rfl ?_
            · rw [pd]
              first | (rw [if_neg (by omega)]; done) | (rw [if_pos (by omega), if_pos (by omega)]; done) | (rw [if_pos (by omega), if_neg (by omega)]; done)
            · omega
          · refine aw_iload dX9_setsOut_66 rfl ?_
            refine aw_if_le 102 dX9_setsOut_68 rfl (fun c68 => ?_) (fun c68 => ?_)
            · refine tl _ _ _ _ _ ?_ rfl ?_
              · rw [pd]
                first | (rw [if_neg (by omega)]; done) | (rw [if_pos (by omega), if_pos (by omega)]; done) | (rw [if_pos (by omega), if_neg (by omega)]; done)
              · omega
            · refine aw_iload dX9_setsOut_71 rfl ?_
              refine aw_iload dX9_setsOut_73 rfl ?_
              refine aw_iadd dX9_setsOut_75 (by omega) (by omega) ?_
              refine aw_aload_n dX9_setsOut_76 rfl ?_
              refine aw_iconst dX9_setsOut_77 (by decide) (by decide) ?_
              refine aw_iaload dX9_setsOut_78 (by first | rfl | assumption) (by omega) (by omega) ?_
              rw [e0]
              refine aw_icmp_le 102 dX9_setsOut_79 rfl (fun c79 => ?_) (fun c79 => ?_)
              · refine tl _ _ _ _ _ ?_ rfl ?_
                · rw [pd]
                  first | (rw [if_neg (by omega)]; done) | (rw [if_pos (by omega), if_pos (by omega)]; done) | (rw [if_pos (by omega), if_neg (by omega)]; done)
                · omega
              · refine aw_iconst dX9_setsOut_82 (by decide) (by decide) ?_
                refine aw_istore (ls' := [_, _, _, _, _, _, _, _, _, _]) dX9_setsOut_83 (by decide) rfl ?_
                refine aw_iinc (ls' := [_, _, _, _, _, _, _, _, _, _]) dX9_setsOut_85 (by decide) rfl (by omega) (by omega) rfl ?_
                refine aw_iload dX9_setsOut_88 rfl ?_
                refine aw_aload_n dX9_setsOut_90 rfl ?_
                refine aw_iconst dX9_setsOut_91 (by decide) (by decide) ?_
                refine aw_iaload dX9_setsOut_92 (by first | rfl | assumption) (by omega) (by omega) ?_
                rw [e1]
                refine aw_icmp_ne 102 dX9_setsOut_93 rfl (fun c93 => ?_) (fun c93 => ?_)
                · refine tl _ _ _ _ _ ?_ rfl ?_
                  · rw [pd]
                    first | (rw [if_neg (by omega)]; done) | (rw [if_pos (by omega), if_pos (by omega)]; done) | (rw [if_pos (by omega), if_neg (by omega)]; done)
                  · omega
                · refine aw_iconst dX9_setsOut_96 (by decide) (by decide) ?_
                  refine aw_istore (ls' := [_, _, _, _, _, _, _, _, _, _]) dX9_setsOut_97 (by decide) rfl ?_
                  refine aw_iinc (ls' := [_, _, _, _, _, _, _, _, _, _]) dX9_setsOut_99 (by decide) rfl (by omega) (by omega) rfl ?_
                  refine tl _ _ _ _ _ ?_ rfl ?_
                  · rw [pd]
                    first | (rw [if_neg (by omega)]; done) | (rw [if_pos (by omega), if_pos (by omega)]; done) | (rw [if_pos (by omega), if_neg (by omega)]; done)
                  · omega
      · refine aw_iload_n dX9_setsOut_34 rfl ?_
        refine aw_goto 39 dX9_setsOut_35 rfl ?_
        refine aw_iadd dX9_setsOut_39 (by omega) (by omega) ?_
        first | rw [ew1 (by omega)] | rw [ew0 (by omega)]
        refine aw_istore (ls' := [_, _, _, _, _, _, _, _, _, _]) dX9_setsOut_40 (by decide) rfl ?_
        refine aw_aload_n dX9_setsOut_42 rfl ?_
        refine aw_iconst dX9_setsOut_43 (by decide) (by decide) ?_
        refine aw_iconst dX9_setsOut_44 (by decide) (by decide) ?_
        refine aw_iload dX9_setsOut_45 rfl ?_
        refine aw_imul dX9_setsOut_47 (by omega) (by omega) ?_
        refine aw_iadd dX9_setsOut_48 (by omega) (by omega) ?_
        refine aw_iaload dX9_setsOut_49 (by first | rfl | assumption) (by omega) (by omega) ?_
        rw [ek]
        refine aw_iconst dX9_setsOut_50 (by decide) (by decide) ?_
        refine aw_icmp_ne 58 dX9_setsOut_51 rfl (fun c51 => ?_) (fun c51 => ?_)
        · refine aw_iconst dX9_setsOut_58 (by decide) (by decide) ?_
          refine aw_istore (ls' := [_, _, _, _, _, _, _, _, _, _]) dX9_setsOut_59 (by decide) rfl ?_
          refine aw_iload dX9_setsOut_61 rfl ?_
          refine aw_if_ne 102 dX9_setsOut_63 rfl (fun c63 => ?_) (fun c63 => ?_)
          · refine tl _ _ _ _ _ ?_ rfl ?_
            · rw [pd]
              first | (rw [if_neg (by omega)]; done) | (rw [if_pos (by omega), if_pos (by omega)]; done) | (rw [if_pos (by omega), if_neg (by omega)]; done)
            · omega
          · refine aw_iload dX9_setsOut_66 rfl ?_
            refine aw_if_le 102 dX9_setsOut_68 rfl (fun c68 => ?_) (fun c68 => ?_)
            · refine tl _ _ _ _ _ ?_ rfl ?_
              · rw [pd]
                first | (rw [if_neg (by omega)]; done) | (rw [if_pos (by omega), if_pos (by omega)]; done) | (rw [if_pos (by omega), if_neg (by omega)]; done)
              · omega
            · refine aw_iload dX9_setsOut_71 rfl ?_
              refine aw_iload dX9_setsOut_73 rfl ?_
              refine aw_iadd dX9_setsOut_75 (by omega) (by omega) ?_
              refine aw_aload_n dX9_setsOut_76 rfl ?_
              refine aw_iconst dX9_setsOut_77 (by decide) (by decide) ?_
              refine aw_iaload dX9_setsOut_78 (by first | rfl | assumption) (by omega) (by omega) ?_
              rw [e0]
              refine aw_icmp_le 102 dX9_setsOut_79 rfl (fun c79 => ?_) (fun c79 => ?_)
              · refine tl _ _ _ _ _ ?_ rfl ?_
                · rw [pd]
                  first | (rw [if_neg (by omega)]; done) | (rw [if_pos (by omega), if_pos (by omega)]; done) | (rw [if_pos (by omega), if_neg (by omega)]; done)
                · omega
              · refine aw_iconst dX9_setsOut_82 (by decide) (by decide) ?_
                refine aw_istore (ls' := [_, _, _, _, _, _, _, _, _, _]) dX9_setsOut_83 (by decide) rfl ?_
                refine aw_iinc (ls' := [_, _, _, _, _, _, _, _, _, _]) dX9_setsOut_85 (by decide) rfl (by omega) (by omega) rfl ?_
                refine aw_iload dX9_setsOut_88 rfl ?_
                refine aw_aload_n dX9_setsOut_90 rfl ?_
                refine aw_iconst dX9_setsOut_91 (by decide) (by decide) ?_
                refine aw_iaload dX9_setsOut_92 (by first | rfl | assumption) (by omega) (by omega) ?_
                rw [e1]
                refine aw_icmp_ne 102 dX9_setsOut_93 rfl (fun c93 => ?_) (fun c93 => ?_)
                · refine tl _ _ _ _ _ ?_ rfl ?_
                  · rw [pd]
                    first | (rw [if_neg (by omega)]; done) | (rw [if_pos (by omega), if_pos (by omega)]; done) | (rw [if_pos (by omega), if_neg (by omega)]; done)
                  · omega
                · refine aw_iconst dX9_setsOut_96 (by decide) (by decide) ?_
                  refine aw_istore (ls' := [_, _, _, _, _, _, _, _, _, _]) dX9_setsOut_97 (by decide) rfl ?_
                  refine aw_iinc (ls' := [_, _, _, _, _, _, _, _, _, _]) dX9_setsOut_99 (by decide) rfl (by omega) (by omega) rfl ?_
                  refine tl _ _ _ _ _ ?_ rfl ?_
                  · rw [pd]
                    first | (rw [if_neg (by omega)]; done) | (rw [if_pos (by omega), if_pos (by omega)]; done) | (rw [if_pos (by omega), if_neg (by omega)]; done)
                  · omega
        · refine aw_iconst dX9_setsOut_54 (by decide) (by decide) ?_
          refine aw_goto 59 dX9_setsOut_55 rfl ?_
          refine aw_istore (ls' := [_, _, _, _, _, _, _, _, _, _]) dX9_setsOut_59 (by decide) rfl ?_
          refine aw_iload dX9_setsOut_61 rfl ?_
          refine aw_if_ne 102 dX9_setsOut_63 rfl (fun c63 => ?_) (fun c63 => ?_)
          · refine tl _ _ _ _ _ ?_ rfl ?_
            · rw [pd]
              first | (rw [if_neg (by omega)]; done) | (rw [if_pos (by omega), if_pos (by omega)]; done) | (rw [if_pos (by omega), if_neg (by omega)]; done)
            · omega
          · refine aw_iload dX9_setsOut_66 rfl ?_
            refine aw_if_le 102 dX9_setsOut_68 rfl (fun c68 => ?_) (fun c68 => ?_)
            · refine tl _ _ _ _ _ ?_ rfl ?_
              · rw [pd]
                first | (rw [if_neg (by omega)]; done) | (rw [if_pos (by omega), if_pos (by omega)]; done) | (rw [if_pos (by omega), if_neg (by omega)]; done)
              · omega
            · refine aw_iload dX9_setsOut_71 rfl ?_
              refine aw_iload dX9_setsOut_73 rfl ?_
              refine aw_iadd dX9_setsOut_75 (by omega) (by omega) ?_
              refine aw_aload_n dX9_setsOut_76 rfl ?_
              refine aw_iconst dX9_setsOut_77 (by decide) (by decide) ?_
              refine aw_iaload dX9_setsOut_78 (by first | rfl | assumption) (by omega) (by omega) ?_
              rw [e0]
              refine aw_icmp_le 102 dX9_setsOut_79 rfl (fun c79 => ?_) (fun c79 => ?_)
              · refine tl _ _ _ _ _ ?_ rfl ?_
                · rw [pd]
                  first | (rw [if_neg (by omega)]; done) | (rw [if_pos (by omega), if_pos (by omega)]; done) | (rw [if_pos (by omega), if_neg (by omega)]; done)
                · omega
              · refine aw_iconst dX9_setsOut_82 (by decide) (by decide) ?_
                refine aw_istore (ls' := [_, _, _, _, _, _, _, _, _, _]) dX9_setsOut_83 (by decide) rfl ?_
                refine aw_iinc (ls' := [_, _, _, _, _, _, _, _, _, _]) dX9_setsOut_85 (by decide) rfl (by omega) (by omega) rfl ?_
                refine aw_iload dX9_setsOut_88 rfl ?_
                refine aw_aload_n dX9_setsOut_90 rfl ?_
                refine aw_iconst dX9_setsOut_91 (by decide) (by decide) ?_
                refine aw_iaload dX9_setsOut_92 (by first | rfl | assumption) (by omega) (by omega) ?_
                rw [e1]
                refine aw_icmp_ne 102 dX9_setsOut_93 rfl (fun c93 => ?_) (fun c93 => ?_)
                · refine tl _ _ _ _ _ ?_ rfl ?_
                  · rw [pd]
                    first | (rw [if_neg (by omega)]; done) | (rw [if_pos (by omega), if_pos (by omega)]; done) | (rw [if_pos (by omega), if_neg (by omega)]; done)
                  · omega
                · refine aw_iconst dX9_setsOut_96 (by decide) (by decide) ?_
                  refine aw_istore (ls' := [_, _, _, _, _, _, _, _, _, _]) dX9_setsOut_97 (by decide) rfl ?_
                  refine aw_iinc (ls' := [_, _, _, _, _, _, _, _, _, _]) dX9_setsOut_99 (by decide) rfl (by omega) (by omega) rfl ?_
                  refine tl _ _ _ _ _ ?_ rfl ?_
                  · rw [pd]
                    first | (rw [if_neg (by omega)]; done) | (rw [if_pos (by omega), if_pos (by omega)]; done) | (rw [if_pos (by omega), if_neg (by omega)]; done)
                  · omega
end MO3
