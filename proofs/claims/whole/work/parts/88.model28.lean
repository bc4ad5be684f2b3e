/-! the reference: chance -/
theorem aw_iadd0 {M : MI} {mc ms : Nat} {Q : Option AV → Tp → Mem → Prop} {pc : Nat} {ls : List (Option AV)} {st : List AV} {t : Tp} {h : Mem} {ck sk : Nat} {x : Int} (hd : decode M.2.1 pc = .ok (.iadd, 1)) (k : AW M mc ms Q (pc + 1) ls (vI x :: st) t h ck sk) : AW M mc ms Q pc ls (vI 0 :: vI x :: st) t h ck sk := by
  intro G p l e R s m args below meth c H locs lsC stC C hR hL hS hq
  obtain ⟨b, r1, rfl, hb, hS1⟩ := SR.i hS
  obtain ⟨a, r2, rfl, rfl, hS2⟩ := SR.i hS1
  have e0 : b = 0 := Int32.toInt_inj.mp (by rw [hb]; rfl)
  subst e0
  exact lv_iadd C.1 C.2.1 hd (k G p l e R s m args below meth c H locs lsC _ C hR hL ⟨⟨_, rfl, by rw [Int32.add_zero]⟩, hS2⟩ hq)
theorem sub_and {s W : Nat} (hs : s < 4096) : (Int32.ofInt (s : Int) &&& Int32.ofInt (Int32.ofInt (W : Int) ^^^ Int32.ofInt (-1)).toInt).toInt = 0 ↔ ∀ i, i < 12 → s / 2 ^ i % 2 = 1 → W / 2 ^ i % 2 = 1 := by
  have ex : (Int32.ofInt (s : Int)).toBitVec = BitVec.ofNat 32 s := by
    show BitVec.ofInt 32 (s : Int) = _
    exact BitVec.ofInt_natCast _ _
  have ey : (Int32.ofInt (W : Int)).toBitVec = BitVec.ofNat 32 W := by
    show BitVec.ofInt 32 (W : Int) = _
    exact BitVec.ofInt_natCast _ _
  have em : (Int32.ofInt (-1)).toBitVec = BitVec.allOnes 32 := by decide
  have e0 : (0 : Int) = (0#32).toInt := by decide
  rw [Int32.ofInt_toInt, ← Int32.toInt_toBitVec, e0, BitVec.toInt_inj, Int32.toBitVec_and, Int32.toBitVec_xor, ex, ey, em, BitVec.xor_allOnes]
  constructor
  · intro h i hi hb
    have := congrArg (fun z => BitVec.getLsbD z i) h
    simp only [BitVec.getLsbD_and, BitVec.getLsbD_not, BitVec.getLsbD_ofNat, Nat.testBit_eq_decide_div_mod_eq] at this
    rw [decide_eq_true (show i < 32 by omega), decide_eq_true hb] at this
    by_cases y : W / 2 ^ i % 2 = 1
    · exact y
    · rw [decide_eq_false y] at this
      simp at this
  · intro h
    refine BitVec.eq_of_getLsbD_eq (fun i hi => ?_)
    simp only [BitVec.getLsbD_and, BitVec.getLsbD_not, BitVec.getLsbD_ofNat, Nat.testBit_eq_decide_div_mod_eq]
    by_cases a : i < 12
    · by_cases b : s / 2 ^ i % 2 = 1
      · have := h i a b
        simp [this]
      · simp [b]
    · have : s / 2 ^ i = 0 := Nat.div_eq_of_lt (Nat.lt_of_lt_of_le hs (show 2 ^ 12 ≤ 2 ^ i from Nat.pow_le_pow_right (by decide) (show 12 ≤ i by omega)))
      simp [this]
theorem sub_sbs {V : VW} {s N : Nat} (hN : N ≤ 12) (hs : s ≤ wN V N) : (Int32.ofInt (s : Int) &&& Int32.ofInt (Int32.ofInt (wN V N : Int) ^^^ Int32.ofInt (-1)).toInt).toInt = 0 ↔ sbs V s N = true := by
  have lt := wN_lt (V := V) N
  have p12 : 2 ^ N ≤ 2 ^ 12 := Nat.pow_le_pow_right (by decide) hN
  rw [sub_and (by omega), sbs_iff]
  constructor
  · intro h i hi hb
    exact (wN_bit N i hi).mp (h i (by omega) hb)
  · intro h i hi hb
    by_cases y : i < N
    · exact (wN_bit N i y).mpr (h i y hb)
    · have : s / 2 ^ i = 0 := Nat.div_eq_of_lt (Nat.lt_of_lt_of_le (show s < 2 ^ N by omega) (Nat.pow_le_pow_right (by decide) (by omega)))
      rw [this] at hb
      exact absurd hb (by decide)
def PMl (sp : Int × ST) (h : Mem) (t : Tp) : Option AV → Tp → Mem → Prop := fun v t' h' => v = some (vL sp.1) ∧ t' = t ∧ MS h' sp.2 ∧ ∀ c, c < 373 ∨ 388 < c → h' c = h c
section MOS
variable {e q n L : Nat} {h : Mem} {σ : ST} {V : VW}
theorem l_chW {Q : Option AV → Tp → Mem → Prop} {c w : Int} {N : Nat} (ev : mV h 379 0 = V) (hN : V 0 0 = (N : Int)) (h12 : N ≤ 12)
    (hk : AW M_X9_chance 0 0 Q 114 [some (vR 373), some (vI c), some (vI w), some (vI (bset (fun i => decide (V 1 i = 4)) N)), some (vL (bN V N)), none, none, none, none, none, none, none, none, none] [] (TT e q n L) h 0 0) :
    ∀ (m k : Nat) (y : Option AV), k + m = N → AW M_X9_chance 0 0 Q 42 [some (vR 373), some (vI c), some (vI w), some (vI (bset (fun i => decide (V 1 i = 4)) k)), some (vL (bN V k)), none, some (vI k), y, none, none, none, none, none, none] [] (TT e q n L) h 0 0 := by
  have ea := mA_c ev
  intro m
  induction m with
  | zero =>
    intro k y hi
    have ek : k = N := by omega
    subst ek
    refine aw_iload dX9_chance_42 rfl ?_
    refine aw_aload_n dX9_chance_44 rfl ?_
    refine aw_getR1 dX9_chance_45 fx_RX9_25 (by first | rfl | assumption) (by first | rfl | assumption) ?_
    refine aw_iconst dX9_chance_48 (by decide) (by decide) ?_
    refine aw_iaload dX9_chance_49 (by first | rfl | assumption) (by omega) (by omega) ?_
    rw [ea]
    refine aw_icmp_ge 114 dX9_chance_50 rfl (fun c50 => ?_) (fun c50 => ?_)
    · exact aw_less (by repeat' (first | exact trivial | exact rfl | apply And.intro)) hk
    · exfalso; omega
  | succ m ih =>
    intro k y hi
    have z := fun y => ih (k + 1) y (by omega)
    have r1 := mA1 (k := (k : Int)) ev (by omega) (by omega)
    have bb := bN_12 (V := V) (k := k) (by omega)
    have eb : bN V (k + 1) = if V 1 k = 4 then bN V k * 10 else bN V k * 1 := rfl
    have z1 : V 1 k = 4 → ∀ y, AW M_X9_chance 0 0 Q 42 [some (vR 373), some (vI c), some (vI w), some (vI (ior (bset (fun i => decide (V 1 i = 4)) k) (shl1 k))), some (vL (bN V k * 10)), none, some (vI ((k : Int) + 1)), y, none, none, none, none, none, none] [] (TT e q n L) h 0 0 := fun a y => by
      have := z y
      rw [bset_t (P := fun i => decide (V 1 i = 4)) (decide_eq_true a), eb, if_pos a] at this
      exact this
    have z0 : ¬ V 1 k = 4 → ∀ y, AW M_X9_chance 0 0 Q 42 [some (vR 373), some (vI c), some (vI w), some (vI (ior (bset (fun i => decide (V 1 i = 4)) k) 0)), some (vL (bN V k * 1)), none, some (vI ((k : Int) + 1)), y, none, none, none, none, none, none] [] (TT e q n L) h 0 0 := fun a y => by
      have := z y
      rw [bset_f (P := fun i => decide (V 1 i = 4)) (decide_eq_false a), ← ior_0, eb, if_neg a] at this
      exact this
    refine aw_iload dX9_chance_42 rfl ?_
    refine aw_aload_n dX9_chance_44 rfl ?_
    refine aw_getR1 dX9_chance_45 fx_RX9_25 (by first | rfl | assumption) (by first | rfl | assumption) ?_
    refine aw_iconst dX9_chance_48 (by decide) (by decide) ?_
    refine aw_iaload dX9_chance_49 (by first | rfl | assumption) (by omega) (by omega) ?_
    rw [ea]
    refine aw_icmp_ge 114 dX9_chance_50 rfl (fun c50 => ?_) (fun c50 => ?_)
    · exfalso; omega
    · refine aw_aload_n dX9_chance_53 rfl ?_
      refine aw_getR1 dX9_chance_54 fx_RX9_25 (by first | rfl | assumption) (by first | rfl | assumption) ?_
      refine aw_iconst dX9_chance_57 (by decide) (by decide) ?_
      refine aw_iconst dX9_chance_58 (by decide) (by decide) ?_
      refine aw_iload dX9_chance_59 rfl ?_
      refine aw_imul dX9_chance_61 (by omega) (by omega) ?_
      refine aw_iadd dX9_chance_62 (by omega) (by omega) ?_
      refine aw_iaload dX9_chance_63 (by first | rfl | assumption) (by omega) (by omega) ?_
      rw [r1]
      refine aw_iconst dX9_chance_64 (by decide) (by decide) ?_
      refine aw_icmp_ne 72 dX9_chance_65 rfl (fun c65 => ?_) (fun c65 => ?_)
      · refine aw_iconst dX9_chance_72 (by decide) (by decide) ?_
        refine aw_istore (ls' := [_, _, _, _, _, _, _, _, _, _, _, _, _, _]) dX9_chance_73 (by decide) rfl ?_
        refine aw_iload_n dX9_chance_75 rfl ?_
        refine aw_iload dX9_chance_76 rfl ?_
        refine aw_if_eq 88 dX9_chance_78 rfl (fun c78 => ?_) (fun c78 => ?_)
        · refine aw_iconst dX9_chance_88 (by decide) (by decide) ?_
          refine aw_iorw dX9_chance_89 ?_
          refine aw_istore_n (ls' := [_, _, _, _, _, _, _, _, _, _, _, _, _, _]) dX9_chance_90 (by decide) rfl ?_
          refine aw_lload dX9_chance_91 rfl ?_
          refine aw_iload dX9_chance_93 rfl ?_
          refine aw_if_eq 104 dX9_chance_95 rfl (fun c95 => ?_) (fun c95 => ?_)
          · refine aw_lconst (z := 1) dX9_chance_104 (by decide) ?_
            refine aw_lmul dX9_chance_105 (by omega) (by omega) ?_
            refine aw_lstore (ls' := [_, _, _, _, _, _, _, _, _, _, _, _, _, _]) dX9_chance_106 (by decide) rfl ?_
            refine aw_iinc (ls' := [_, _, _, _, _, _, _, _, _, _, _, _, _, _]) dX9_chance_108 (by decide) rfl (by omega) (by omega) rfl ?_
            refine aw_goto 42 dX9_chance_111 rfl ?_
            first | (exfalso; omega) | exact z1 (by omega) _ | exact z0 (by omega) _
          · refine aw_ldc2 (n := 10) dX9_chance_98 kl_RX9_236 (by decide) ?_
            refine aw_goto 105 dX9_chance_101 rfl ?_
            refine aw_lmul dX9_chance_105 (by omega) (by omega) ?_
            refine aw_lstore (ls' := [_, _, _, _, _, _, _, _, _, _, _, _, _, _]) dX9_chance_106 (by decide) rfl ?_
            refine aw_iinc (ls' := [_, _, _, _, _, _, _, _, _, _, _, _, _, _]) dX9_chance_108 (by decide) rfl (by omega) (by omega) rfl ?_
            refine aw_goto 42 dX9_chance_111 rfl ?_
            first | (exfalso; omega) | exact z1 (by omega) _ | exact z0 (by omega) _
        · refine aw_iconst dX9_chance_81 (by decide) (by decide) ?_
          refine aw_iload dX9_chance_82 rfl ?_
          refine aw_ishlw dX9_chance_84 ?_
          refine aw_goto 89 dX9_chance_85 rfl ?_
          refine aw_iorw dX9_chance_89 ?_
          refine aw_istore_n (ls' := [_, _, _, _, _, _, _, _, _, _, _, _, _, _]) dX9_chance_90 (by decide) rfl ?_
          refine aw_lload dX9_chance_91 rfl ?_
          refine aw_iload dX9_chance_93 rfl ?_
          refine aw_if_eq 104 dX9_chance_95 rfl (fun c95 => ?_) (fun c95 => ?_)
          · refine aw_lconst (z := 1) dX9_chance_104 (by decide) ?_
            refine aw_lmul dX9_chance_105 (by omega) (by omega) ?_
            refine aw_lstore (ls' := [_, _, _, _, _, _, _, _, _, _, _, _, _, _]) dX9_chance_106 (by decide) rfl ?_
            refine aw_iinc (ls' := [_, _, _, _, _, _, _, _, _, _, _, _, _, _]) dX9_chance_108 (by decide) rfl (by omega) (by omega) rfl ?_
            refine aw_goto 42 dX9_chance_111 rfl ?_
            first | (exfalso; omega) | exact z1 (by omega) _ | exact z0 (by omega) _
          · refine aw_ldc2 (n := 10) dX9_chance_98 kl_RX9_236 (by decide) ?_
            refine aw_goto 105 dX9_chance_101 rfl ?_
            refine aw_lmul dX9_chance_105 (by omega) (by omega) ?_
            refine aw_lstore (ls' := [_, _, _, _, _, _, _, _, _, _, _, _, _, _]) dX9_chance_106 (by decide) rfl ?_
            refine aw_iinc (ls' := [_, _, _, _, _, _, _, _, _, _, _, _, _, _]) dX9_chance_108 (by decide) rfl (by omega) (by omega) rfl ?_
            refine aw_goto 42 dX9_chance_111 rfl ?_
            first | (exfalso; omega) | exact z1 (by omega) _ | exact z0 (by omega) _
      · refine aw_iconst dX9_chance_68 (by decide) (by decide) ?_
        refine aw_goto 73 dX9_chance_69 rfl ?_
        refine aw_istore (ls' := [_, _, _, _, _, _, _, _, _, _, _, _, _, _]) dX9_chance_73 (by decide) rfl ?_
        refine aw_iload_n dX9_chance_75 rfl ?_
        refine aw_iload dX9_chance_76 rfl ?_
        refine aw_if_eq 88 dX9_chance_78 rfl (fun c78 => ?_) (fun c78 => ?_)
        · refine aw_iconst dX9_chance_88 (by decide) (by decide) ?_
          refine aw_iorw dX9_chance_89 ?_
          refine aw_istore_n (ls' := [_, _, _, _, _, _, _, _, _, _, _, _, _, _]) dX9_chance_90 (by decide) rfl ?_
          refine aw_lload dX9_chance_91 rfl ?_
          refine aw_iload dX9_chance_93 rfl ?_
          refine aw_if_eq 104 dX9_chance_95 rfl (fun c95 => ?_) (fun c95 => ?_)
          · refine aw_lconst (z := 1) dX9_chance_104 (by decide) ?_
            refine aw_lmul dX9_chance_105 (by omega) (by omega) ?_
            refine aw_lstore (ls' := [_, _, _, _, _, _, _, _, _, _, _, _, _, _]) dX9_chance_106 (by decide) rfl ?_
            refine aw_iinc (ls' := [_, _, _, _, _, _, _, _, _, _, _, _, _, _]) dX9_chance_108 (by decide) rfl (by omega) (by omega) rfl ?_
            refine aw_goto 42 dX9_chance_111 rfl ?_
            first | (exfalso; omega) | exact z1 (by omega) _ | exact z0 (by omega) _
          · refine aw_ldc2 (n := 10) dX9_chance_98 kl_RX9_236 (by decide) ?_
            refine aw_goto 105 dX9_chance_101 rfl ?_
            refine aw_lmul dX9_chance_105 (by omega) (by omega) ?_
            refine aw_lstore (ls' := [_, _, _, _, _, _, _, _, _, _, _, _, _, _]) dX9_chance_106 (by decide) rfl ?_
            refine aw_iinc (ls' := [_, _, _, _, _, _, _, _, _, _, _, _, _, _]) dX9_chance_108 (by decide) rfl (by omega) (by omega) rfl ?_
            refine aw_goto 42 dX9_chance_111 rfl ?_
            first | (exfalso; omega) | exact z1 (by omega) _ | exact z0 (by omega) _
        · refine aw_iconst dX9_chance_81 (by decide) (by decide) ?_
          refine aw_iload dX9_chance_82 rfl ?_
          refine aw_ishlw dX9_chance_84 ?_
          refine aw_goto 89 dX9_chance_85 rfl ?_
          refine aw_iorw dX9_chance_89 ?_
          refine aw_istore_n (ls' := [_, _, _, _, _, _, _, _, _, _, _, _, _, _]) dX9_chance_90 (by decide) rfl ?_
          refine aw_lload dX9_chance_91 rfl ?_
          refine aw_iload dX9_chance_93 rfl ?_
          refine aw_if_eq 104 dX9_chance_95 rfl (fun c95 => ?_) (fun c95 => ?_)
          · refine aw_lconst (z := 1) dX9_chance_104 (by decide) ?_
            refine aw_lmul dX9_chance_105 (by omega) (by omega) ?_
            refine aw_lstore (ls' := [_, _, _, _, _, _, _, _, _, _, _, _, _, _]) dX9_chance_106 (by decide) rfl ?_
            refine aw_iinc (ls' := [_, _, _, _, _, _, _, _, _, _, _, _, _, _]) dX9_chance_108 (by decide) rfl (by omega) (by omega) rfl ?_
            refine aw_goto 42 dX9_chance_111 rfl ?_
            first | (exfalso; omega) | exact z1 (by omega) _ | exact z0 (by omega) _
          · refine aw_ldc2 (n := 10) dX9_chance_98 kl_RX9_236 (by decide) ?_
            refine aw_goto 105 dX9_chance_101 rfl ?_
            refine aw_lmul dX9_chance_105 (by omega) (by omega) ?_
            refine aw_lstore (ls' := [_, _, _, _, _, _, _, _, _, _, _, _, _, _]) dX9_chance_106 (by decide) rfl ?_
            refine aw_iinc (ls' := [_, _, _, _, _, _, _, _, _, _, _, _, _, _]) dX9_chance_108 (by decide) rfl (by omega) (by omega) rfl ?_
            refine aw_goto 42 dX9_chance_111 rfl ?_
            first | (exfalso; omega) | exact z1 (by omega) _ | exact z0 (by omega) _
set_option maxHeartbeats 4000000 in
theorem l_chI {Q : Option AV → Tp → Mem → Prop} {c w B A : Int} {N s : Nat} (hV : WFv V) (hN : V 0 0 = (N : Int)) (hc : h 379 3 = V 0 0) (c0 : 0 ≤ c) (c1 : c ≤ 10) (hs : s ≤ wN V N) (hsb : sbs V s N = true)
    (hk : ∀ hh, (∀ x, x ≠ 381 → hh x = h x) → mV hh 381 0 = gw V s N → AW M_X9_chance 0 0 Q 256 [some (vR 373), some (vI c), some (vI w), some (vI (wN V N)), some (vL B), none, some (vL A), none, some (vI s), some (vL (wy c V s N)), none, none, none, none] [] (TT e q n L) hh 0 0) :
    ∀ (m k : Nat) (hh : Mem) (y : Option AV), k + m = N → (∀ x, x ≠ 381 → hh x = h x) → mV hh 381 0 = gw V s k → AW M_X9_chance 0 0 Q 154 [some (vR 373), some (vI c), some (vI w), some (vI (wN V N)), some (vL B), none, some (vL A), none, some (vI s), some (vL (wy c V s k)), none, some (vI k), y, none] [] (TT e q n L) hh 0 0 := by
  have v2 := hV.2.1
  have lt := wN_lt (V := V) N
  have p12 : 2 ^ N ≤ 2 ^ 12 := Nat.pow_le_pow_right (by decide) (show N ≤ 12 by omega)
  intro m
  induction m with
  | zero =>
    intro k hh y hi hf ev
    have ek : k = N := by omega
    subst ek
    have ea : hh 379 3 = V 0 0 := by rw [hf 379 (by decide)]; exact hc
    refine aw_iload dX9_chance_154 rfl ?_
    refine aw_aload_n dX9_chance_156 rfl ?_
    refine aw_getR1 dX9_chance_157 fx_RX9_25 (by first | rfl | assumption) (by first | rfl | assumption) ?_
    refine aw_iconst dX9_chance_160 (by decide) (by decide) ?_
    refine aw_iaload dX9_chance_161 (by first | rfl | assumption) (by omega) (by omega) ?_
    rw [ea]
    refine aw_icmp_ge 256 dX9_chance_162 rfl (fun c162 => ?_) (fun c162 => ?_)
    · exact aw_less (by repeat' (first | exact trivial | exact rfl | apply And.intro)) (hk hh hf ev)
    · exfalso; omega
  | succ m ih =>
    intro k hh y hi hf ev
    have z := ih (k + 1)
    have ea : hh 379 3 = V 0 0 := by rw [hf 379 (by decide)]; exact hc
    have wb := wN_bit (V := V) N k (by omega)
    have sb := (sbs_iff N).mp hsb k (by omega)
    have w4 := (hV.2.2.2.2.2.2.2.2 (k : Int) (by omega) (by omega)).2.2.2.1
    have wy2 := wy_12 (V := V) (s := s) (k := k) c0 c1 (by omega)
    have e4 : gw V s k 2 k = V 2 k := gw_j k (Or.inr (Int.le_refl _))
    have g00 : (k : Int) < gw V s k 0 0 := by rw [gw_j k (Or.inl (by decide))]; omega
    have n2 : hh 381 (5 + 4 * k + 1) = V 2 k := by rw [mA2 ev (by omega) g00, e4]
    have eg : gw V s (k + 1) = if s / 2 ^ k % 2 = 1 then upW (gw V s k) k else gw V s k := rfl
    have g1 : s / 2 ^ k % 2 = 1 → V 2 k < 20 → mV (am_up hh 381 (5 + 4 * k + 1) (V 2 k + 1)) 381 0 = gw V s (k + 1) := fun b l => by
      rw [mV_set (j0 := 2) ev (by decide) (by omega) g00 (by omega), eg, if_pos b]
      unfold upW upV
      rw [e4, if_pos l]
    have g0 : ¬ (s / 2 ^ k % 2 = 1 ∧ V 2 k < 20) → mV (am_up hh 381 (5 + 4 * k + 1) (V 2 k)) 381 0 = gw V s (k + 1) := fun b => by
      rw [mV_set (j0 := 2) ev (by decide) (by omega) g00 (by omega), eg]
      have es : setV (gw V s k) 2 k (V 2 k) = gw V s k := by
        have := setV_self (V := gw V s k) (j := 2) (p := (k : Int))
        rw [e4] at this
        exact this
      rw [es]
      by_cases y : s / 2 ^ k % 2 = 1
      · rw [if_pos y]
        unfold upW
        rw [e4, if_neg (fun l => b ⟨y, l⟩)]
      · rw [if_neg y]
    have ew : ∀ X : Int, X = (if V 1 k = 4 then (if s / 2 ^ k % 2 = 1 then c else 10 - c) else 1) → ∀ (hh2 : Mem) (y : Option AV), (∀ x, x ≠ 381 → hh2 x = h x) → mV hh2 381 0 = gw V s (k + 1) → AW M_X9_chance 0 0 Q 154 [some (vR 373), some (vI c), some (vI w), some (vI (wN V N)), some (vL B), none, some (vL A), none, some (vI s), some (vL (wy c V s k * X)), none, some (vI ((k : Int) + 1)), y, none] [] (TT e q n L) hh2 0 0 := fun X hX hh2 y f2 e2 => by
      subst hX
      exact z hh2 y (by omega) f2 e2
    have fr : ∀ v : Int, ∀ x, x ≠ 381 → am_up hh 381 (5 + 4 * k + 1) v x = h x := fun v x hx => by rw [am_up_ne hx]; exact hf x hx
    refine aw_iload dX9_chance_154 rfl ?_
    refine aw_aload_n dX9_chance_156 rfl ?_
    refine aw_getR1 dX9_chance_157 fx_RX9_25 (by first | rfl | assumption) (by first | rfl | assumption) ?_
    refine aw_iconst dX9_chance_160 (by decide) (by decide) ?_
    refine aw_iaload dX9_chance_161 (by first | rfl | assumption) (by omega) (by omega) ?_
    rw [ea]
    refine aw_icmp_ge 256 dX9_chance_162 rfl (fun c162 => ?_) (fun c162 => ?_)
    · exfalso; omega
    · refine aw_iconst dX9_chance_165 (by decide) (by decide) ?_
      refine aw_iconst dX9_chance_166 (by decide) (by decide) ?_
      refine aw_iload dX9_chance_167 rfl ?_
      refine aw_imul dX9_chance_169 (by omega) (by omega) ?_
      refine aw_iadd dX9_chance_170 (by omega) (by omega) ?_
      refine aw_iconst dX9_chance_171 (by decide) (by decide) ?_
      refine aw_iadd dX9_chance_172 (by omega) (by omega) ?_
      refine aw_istore (ls' := [_, _, _, _, _, _, _, _, _, _, _, _, _, _]) dX9_chance_173 (by decide) rfl ?_
      refine aw_lload dX9_chance_175 rfl ?_
      refine aw_iload_n dX9_chance_177 rfl ?_
      refine aw_iload dX9_chance_178 rfl ?_
      refine aw_s2i dX9_chance_180 sl_RX9_238 (Nat.le_of_ble_eq_true rfl) (Nat.le_of_ble_eq_true rfl) (Nat.le_of_ble_eq_true rfl) (Nat.le_refl _) (Nat.le_refl _) (c_X9_has (by omega) (by omega)) ?_
      refine aw_ifB_ne 190 dX9_chance_183 rfl (fun c183 => ?_) (fun c183 => ?_)
      · refine aw_iload dX9_chance_190 rfl ?_
        refine aw_iload dX9_chance_192 rfl ?_
        refine aw_s2i dX9_chance_194 sl_RX9_238 (Nat.le_of_ble_eq_true rfl) (Nat.le_of_ble_eq_true rfl) (Nat.le_of_ble_eq_true rfl) (Nat.le_refl _) (Nat.le_refl _) (c_X9_has (by omega) (by omega)) ?_
        refine aw_ifB_eq 205 dX9_chance_197 rfl (fun c197 => ?_) (fun c197 => ?_)
        · refine aw_bipush dX9_chance_205 (by decide) (by decide) ?_
          refine aw_iload_n dX9_chance_207 rfl ?_
          refine aw_isub dX9_chance_208 (by omega) (by omega) ?_
          refine aw_i2l dX9_chance_209 ?_
          refine aw_lmul dX9_chance_210 (mulb wy2.1 wy2.2 (by omega) (by omega)).1 (mulb wy2.1 wy2.2 (by omega) (by omega)).2 ?_
          refine aw_lstore (ls' := [_, _, _, _, _, _, _, _, _, _, _, _, _, _]) dX9_chance_211 (by decide) rfl ?_
          refine aw_aload_n dX9_chance_213 rfl ?_
          refine aw_getR1 dX9_chance_214 fx_RX9_31 (by first | rfl | assumption) (by first | rfl | assumption) ?_
          refine aw_iload dX9_chance_217 rfl ?_
          refine aw_dup2 dX9_chance_219 rfl rfl ?_
          refine aw_iaload dX9_chance_220 (by first | rfl | assumption) (by omega) (by omega) ?_
          rw [n2]
          refine aw_iload dX9_chance_221 rfl ?_
          refine aw_iload dX9_chance_223 rfl ?_
          refine aw_s2i dX9_chance_225 sl_RX9_238 (Nat.le_of_ble_eq_true rfl) (Nat.le_of_ble_eq_true rfl) (Nat.le_of_ble_eq_true rfl) (Nat.le_refl _) (Nat.le_refl _) (c_X9_has (by omega) (by omega)) ?_
          refine aw_ifB_eq 247 dX9_chance_228 rfl (fun c228 => ?_) (fun c228 => ?_)
          · refine aw_iconst dX9_chance_247 (by decide) (by decide) ?_
            first | refine aw_iadd dX9_chance_248 (by have a := w4 (sb c228); clear sb wb p12 lt; omega) (by have a := w4 (sb c228); clear sb wb p12 lt; omega) ?_ | refine aw_iadd0 dX9_chance_248 ?_
            refine aw_iastore dX9_chance_249 (by first | rfl | assumption) (by omega) (by omega) (by omega) ?_
            refine aw_iinc (ls' := [_, _, _, _, _, _, _, _, _, _, _, _, _, _]) dX9_chance_250 (by decide) rfl (by omega) (by omega) rfl ?_
            refine aw_goto 154 dX9_chance_253 rfl ?_
            exact ew _ (by first | exact (if_neg (fun y => c183 (wb.mpr y))).symm | exact ((if_pos (wb.mp c183)).trans (if_pos c197)).symm | exact ((if_pos (wb.mp c183)).trans (if_neg c197)).symm) _ _ (fr _) (by first | exact g1 c228 (by clear sb wb p12 lt; omega) | exact g0 (fun y => c228 y.1) | (rw [Int.add_zero]; exact g0 (fun y => by have := y.2; clear sb wb p12 lt; omega)))
          · refine aw_aload_n dX9_chance_231 rfl ?_
            refine aw_getR1 dX9_chance_232 fx_RX9_31 (by first | rfl | assumption) (by first | rfl | assumption) ?_
            refine aw_iload dX9_chance_235 rfl ?_
            refine aw_iaload dX9_chance_237 (by first | rfl | assumption) (by omega) (by omega) ?_
            rw [n2]
            refine aw_bipush dX9_chance_238 (by decide) (by decide) ?_
            refine aw_icmp_ge 247 dX9_chance_240 rfl (fun c240 => ?_) (fun c240 => ?_)
            · refine aw_iconst dX9_chance_247 (by decide) (by decide) ?_
              first | refine aw_iadd dX9_chance_248 (by have a := w4 (sb c228); clear sb wb p12 lt; omega) (by have a := w4 (sb c228); clear sb wb p12 lt; omega) ?_ | refine aw_iadd0 dX9_chance_248 ?_
              refine aw_iastore dX9_chance_249 (by first | rfl | assumption) (by omega) (by omega) (by omega) ?_
              refine aw_iinc (ls' := [_, _, _, _, _, _, _, _, _, _, _, _, _, _]) dX9_chance_250 (by decide) rfl (by omega) (by omega) rfl ?_
              refine aw_goto 154 dX9_chance_253 rfl ?_
              exact ew _ (by first | exact (if_neg (fun y => c183 (wb.mpr y))).symm | exact ((if_pos (wb.mp c183)).trans (if_pos c197)).symm | exact ((if_pos (wb.mp c183)).trans (if_neg c197)).symm) _ _ (fr _) (by first | exact g1 c228 (by clear sb wb p12 lt; omega) | exact g0 (fun y => c228 y.1) | (rw [Int.add_zero]; exact g0 (fun y => by have := y.2; clear sb wb p12 lt; omega)))
            · refine aw_iconst dX9_chance_243 (by decide) (by decide) ?_
              refine aw_goto 248 dX9_chance_244 rfl ?_
              first | refine aw_iadd dX9_chance_248 (by have a := w4 (sb c228); clear sb wb p12 lt; omega) (by have a := w4 (sb c228); clear sb wb p12 lt; omega) ?_ | refine aw_iadd0 dX9_chance_248 ?_
              refine aw_iastore dX9_chance_249 (by first | rfl | assumption) (by omega) (by omega) (by omega) ?_
              refine aw_iinc (ls' := [_, _, _, _, _, _, _, _, _, _, _, _, _, _]) dX9_chance_250 (by decide) rfl (by omega) (by omega) rfl ?_
              refine aw_goto 154 dX9_chance_253 rfl ?_
              exact ew _ (by first | exact (if_neg (fun y => c183 (wb.mpr y))).symm | exact ((if_pos (wb.mp c183)).trans (if_pos c197)).symm | exact ((if_pos (wb.mp c183)).trans (if_neg c197)).symm) _ _ (fr _) (by first | exact g1 c228 (by clear sb wb p12 lt; omega) | exact g0 (fun y => c228 y.1) | (rw [Int.add_zero]; exact g0 (fun y => by have := y.2; clear sb wb p12 lt; omega)))
        · refine aw_iload_n dX9_chance_200 rfl ?_
          refine aw_i2l dX9_chance_201 ?_
          refine aw_goto 210 dX9_chance_202 rfl ?_
          refine aw_lmul dX9_chance_210 (mulb wy2.1 wy2.2 (by omega) (by omega)).1 (mulb wy2.1 wy2.2 (by omega) (by omega)).2 ?_
          refine aw_lstore (ls' := [_, _, _, _, _, _, _, _, _, _, _, _, _, _]) dX9_chance_211 (by decide) rfl ?_
          refine aw_aload_n dX9_chance_213 rfl ?_
          refine aw_getR1 dX9_chance_214 fx_RX9_31 (by first | rfl | assumption) (by first | rfl | assumption) ?_
          refine aw_iload dX9_chance_217 rfl ?_
          refine aw_dup2 dX9_chance_219 rfl rfl ?_
          refine aw_iaload dX9_chance_220 (by first | rfl | assumption) (by omega) (by omega) ?_
          rw [n2]
          refine aw_iload dX9_chance_221 rfl ?_
          refine aw_iload dX9_chance_223 rfl ?_
          refine aw_s2i dX9_chance_225 sl_RX9_238 (Nat.le_of_ble_eq_true rfl) (Nat.le_of_ble_eq_true rfl) (Nat.le_of_ble_eq_true rfl) (Nat.le_refl _) (Nat.le_refl _) (c_X9_has (by omega) (by omega)) ?_
          refine aw_ifB_eq 247 dX9_chance_228 rfl (fun c228 => ?_) (fun c228 => ?_)
          · refine aw_iconst dX9_chance_247 (by decide) (by decide) ?_
            first | refine aw_iadd dX9_chance_248 (by have a := w4 (sb c228); clear sb wb p12 lt; omega) (by have a := w4 (sb c228); clear sb wb p12 lt; omega) ?_ | refine aw_iadd0 dX9_chance_248 ?_
            refine aw_iastore dX9_chance_249 (by first | rfl | assumption) (by omega) (by omega) (by omega) ?_
            refine aw_iinc (ls' := [_, _, _, _, _, _, _, _, _, _, _, _, _, _]) dX9_chance_250 (by decide) rfl (by omega) (by omega) rfl ?_
            refine aw_goto 154 dX9_chance_253 rfl ?_
            exact ew _ (by first | exact (if_neg (fun y => c183 (wb.mpr y))).symm | exact ((if_pos (wb.mp c183)).trans (if_pos c197)).symm | exact ((if_pos (wb.mp c183)).trans (if_neg c197)).symm) _ _ (fr _) (by first | exact g1 c228 (by clear sb wb p12 lt; omega) | exact g0 (fun y => c228 y.1) | (rw [Int.add_zero]; exact g0 (fun y => by have := y.2; clear sb wb p12 lt; omega)))
          · refine aw_aload_n dX9_chance_231 rfl ?_
            refine aw_getR1 dX9_chance_232 fx_RX9_31 (by first | rfl | assumption) (by first | rfl | assumption) ?_
            refine aw_iload dX9_chance_235 rfl ?_
            refine aw_iaload dX9_chance_237 (by first | rfl | assumption) (by omega) (by omega) ?_
            rw [n2]
            refine aw_bipush dX9_chance_238 (by decide) (by decide) ?_
            refine aw_icmp_ge 247 dX9_chance_240 rfl (fun c240 => ?_) (fun c240 => ?_)
            · refine aw_iconst dX9_chance_247 (by decide) (by decide) ?_
              first | refine aw_iadd dX9_chance_248 (by have a := w4 (sb c228); clear sb wb p12 lt; omega) (by have a := w4 (sb c228); clear sb wb p12 lt; omega) ?_ | refine aw_iadd0 dX9_chance_248 ?_
              refine aw_iastore dX9_chance_249 (by first | rfl | assumption) (by omega) (by omega) (by omega) ?_
              refine aw_iinc (ls' := [_, _, _, _, _, _, _, _, _, _, _, _, _, _]) dX9_chance_250 (by decide) rfl (by omega) (by omega) rfl ?_
              refine aw_goto 154 dX9_chance_253 rfl ?_
              exact ew _ (by first | exact (if_neg (fun y => c183 (wb.mpr y))).symm | exact ((if_pos (wb.mp c183)).trans (if_pos c197)).symm | exact ((if_pos (wb.mp c183)).trans (if_neg c197)).symm) _ _ (fr _) (by first | exact g1 c228 (by clear sb wb p12 lt; omega) | exact g0 (fun y => c228 y.1) | (rw [Int.add_zero]; exact g0 (fun y => by have := y.2; clear sb wb p12 lt; omega)))
            · refine aw_iconst dX9_chance_243 (by decide) (by decide) ?_
              refine aw_goto 248 dX9_chance_244 rfl ?_
              first | refine aw_iadd dX9_chance_248 (by have a := w4 (sb c228); clear sb wb p12 lt; omega) (by have a := w4 (sb c228); clear sb wb p12 lt; omega) ?_ | refine aw_iadd0 dX9_chance_248 ?_
              refine aw_iastore dX9_chance_249 (by first | rfl | assumption) (by omega) (by omega) (by omega) ?_
              refine aw_iinc (ls' := [_, _, _, _, _, _, _, _, _, _, _, _, _, _]) dX9_chance_250 (by decide) rfl (by omega) (by omega) rfl ?_
              refine aw_goto 154 dX9_chance_253 rfl ?_
              exact ew _ (by first | exact (if_neg (fun y => c183 (wb.mpr y))).symm | exact ((if_pos (wb.mp c183)).trans (if_pos c197)).symm | exact ((if_pos (wb.mp c183)).trans (if_neg c197)).symm) _ _ (fr _) (by first | exact g1 c228 (by clear sb wb p12 lt; omega) | exact g0 (fun y => c228 y.1) | (rw [Int.add_zero]; exact g0 (fun y => by have := y.2; clear sb wb p12 lt; omega)))
      · refine aw_lconst (z := 1) dX9_chance_186 (by decide) ?_
        refine aw_goto 210 dX9_chance_187 rfl ?_
        refine aw_lmul dX9_chance_210 (mulb wy2.1 wy2.2 (by omega) (by omega)).1 (mulb wy2.1 wy2.2 (by omega) (by omega)).2 ?_
        refine aw_lstore (ls' := [_, _, _, _, _, _, _, _, _, _, _, _, _, _]) dX9_chance_211 (by decide) rfl ?_
        refine aw_aload_n dX9_chance_213 rfl ?_
        refine aw_getR1 dX9_chance_214 fx_RX9_31 (by first | rfl | assumption) (by first | rfl | assumption) ?_
        refine aw_iload dX9_chance_217 rfl ?_
        refine aw_dup2 dX9_chance_219 rfl rfl ?_
        refine aw_iaload dX9_chance_220 (by first | rfl | assumption) (by omega) (by omega) ?_
        rw [n2]
        refine aw_iload dX9_chance_221 rfl ?_
        refine aw_iload dX9_chance_223 rfl ?_
        refine aw_s2i dX9_chance_225 sl_RX9_238 (Nat.le_of_ble_eq_true rfl) (Nat.le_of_ble_eq_true rfl) (Nat.le_of_ble_eq_true rfl) (Nat.le_refl _) (Nat.le_refl _) (c_X9_has (by omega) (by omega)) ?_
        refine aw_ifB_eq 247 dX9_chance_228 rfl (fun c228 => ?_) (fun c228 => ?_)
        · refine aw_iconst dX9_chance_247 (by decide) (by decide) ?_
          first | refine aw_iadd dX9_chance_248 (by have a := w4 (sb c228); clear sb wb p12 lt; omega) (by have a := w4 (sb c228); clear sb wb p12 lt; omega) ?_ | refine aw_iadd0 dX9_chance_248 ?_
          refine aw_iastore dX9_chance_249 (by first | rfl | assumption) (by omega) (by omega) (by omega) ?_
          refine aw_iinc (ls' := [_, _, _, _, _, _, _, _, _, _, _, _, _, _]) dX9_chance_250 (by decide) rfl (by omega) (by omega) rfl ?_
          refine aw_goto 154 dX9_chance_253 rfl ?_
          exact ew _ (by first | exact (if_neg (fun y => c183 (wb.mpr y))).symm | exact ((if_pos (wb.mp c183)).trans (if_pos c197)).symm | exact ((if_pos (wb.mp c183)).trans (if_neg c197)).symm) _ _ (fr _) (by first | exact g1 c228 (by clear sb wb p12 lt; omega) | exact g0 (fun y => c228 y.1) | (rw [Int.add_zero]; exact g0 (fun y => by have := y.2; clear sb wb p12 lt; omega)))
        · refine aw_aload_n dX9_chance_231 rfl ?_
          refine aw_getR1 dX9_chance_232 fx_RX9_31 (by first | rfl | assumption) (by first | rfl | assumption) ?_
          refine aw_iload dX9_chance_235 rfl ?_
          refine aw_iaload dX9_chance_237 (by first | rfl | assumption) (by omega) (by omega) ?_
          rw [n2]
          refine aw_bipush dX9_chance_238 (by decide) (by decide) ?_
          refine aw_icmp_ge 247 dX9_chance_240 rfl (fun c240 => ?_) (fun c240 => ?_)
          · refine aw_iconst dX9_chance_247 (by decide) (by decide) ?_
            first | refine aw_iadd dX9_chance_248 (by have a := w4 (sb c228); clear sb wb p12 lt; omega) (by have a := w4 (sb c228); clear sb wb p12 lt; omega) ?_ | refine aw_iadd0 dX9_chance_248 ?_
            refine aw_iastore dX9_chance_249 (by first | rfl | assumption) (by omega) (by omega) (by omega) ?_
            refine aw_iinc (ls' := [_, _, _, _, _, _, _, _, _, _, _, _, _, _]) dX9_chance_250 (by decide) rfl (by omega) (by omega) rfl ?_
            refine aw_goto 154 dX9_chance_253 rfl ?_
            exact ew _ (by first | exact (if_neg (fun y => c183 (wb.mpr y))).symm | exact ((if_pos (wb.mp c183)).trans (if_pos c197)).symm | exact ((if_pos (wb.mp c183)).trans (if_neg c197)).symm) _ _ (fr _) (by first | exact g1 c228 (by clear sb wb p12 lt; omega) | exact g0 (fun y => c228 y.1) | (rw [Int.add_zero]; exact g0 (fun y => by have := y.2; clear sb wb p12 lt; omega)))
          · refine aw_iconst dX9_chance_243 (by decide) (by decide) ?_
            refine aw_goto 248 dX9_chance_244 rfl ?_
            first | refine aw_iadd dX9_chance_248 (by have a := w4 (sb c228); clear sb wb p12 lt; omega) (by have a := w4 (sb c228); clear sb wb p12 lt; omega) ?_ | refine aw_iadd0 dX9_chance_248 ?_
            refine aw_iastore dX9_chance_249 (by first | rfl | assumption) (by omega) (by omega) (by omega) ?_
            refine aw_iinc (ls' := [_, _, _, _, _, _, _, _, _, _, _, _, _, _]) dX9_chance_250 (by decide) rfl (by omega) (by omega) rfl ?_
            refine aw_goto 154 dX9_chance_253 rfl ?_
            exact ew _ (by first | exact (if_neg (fun y => c183 (wb.mpr y))).symm | exact ((if_pos (wb.mp c183)).trans (if_pos c197)).symm | exact ((if_pos (wb.mp c183)).trans (if_neg c197)).symm) _ _ (fr _) (by first | exact g1 c228 (by clear sb wb p12 lt; omega) | exact g0 (fun y => c228 y.1) | (rw [Int.add_zero]; exact g0 (fun y => by have := y.2; clear sb wb p12 lt; omega)))
theorem l_chG {Q : Option AV → Tp → Mem → Prop} {c w B A : Int} {W0 : Int} {G : Nat} (hk : AW M_X9_chance 0 0 Q 346 [some (vR 373), some (vI c), some (vI w), some (vI W0), some (vL B), none, some (vL A), none, some (vL (G : Int)), none, none, none, none, none] [] (TT e q n L) h 0 0) :
    ∀ (m : Nat) (b : Nat) (a : Int), b ≤ m → 0 ≤ a → Int.gcd a (b : Int) = G → AW M_X9_chance 0 0 Q 321 [some (vR 373), some (vI c), some (vI w), some (vI W0), some (vL B), none, some (vL A), none, some (vL a), none, some (vL (b : Int)), none, none, none] [] (TT e q n L) h 0 0 := by
  have st0 : ∀ a : Int, 0 ≤ a → Int.gcd a 0 = G → AW M_X9_chance 0 0 Q 321 [some (vR 373), some (vI c), some (vI w), some (vI W0), some (vL B), none, some (vL A), none, some (vL a), none, some (vL 0), none, none, none] [] (TT e q n L) h 0 0 := by
    intro a h0 hG
    rw [Int.gcd_zero_right] at hG
    have ea : a = (G : Int) := by omega
    subst ea
    refine aw_lload dX9_chance_321 rfl ?_
    refine aw_lconst (z := 0) dX9_chance_323 (by decide) ?_
    refine aw_lcmp dX9_chance_324 ?_
    refine aw_if_eq 346 dX9_chance_325 rfl (fun c325 => ?_) (fun c325 => ?_)
    · exact aw_less (by repeat' (first | exact trivial | exact rfl | apply And.intro)) hk
    · exfalso; exact c325 rfl
  intro m
  induction m with
  | zero =>
    intro b a hb h0 hG
    have e : b = 0 := by omega
    subst e
    exact st0 a h0 hG
  | succ m ih =>
    intro b a hb h0 hG
    by_cases y : b = 0
    · subst y; exact st0 a h0 hG
    · have r0 : 0 ≤ a % (b : Int) := Int.emod_nonneg _ (by omega)
      have r1 : a % (b : Int) < b := Int.emod_lt_of_pos _ (by omega)
      rw [gcd_st h0 (by omega)] at hG
      obtain ⟨r, hr⟩ : ∃ r : Nat, a % (b : Int) = (r : Int) := ⟨(a % (b : Int)).toNat, by omega⟩
      rw [hr] at hG r1
      have z := ih r (b : Int) (by omega) (by omega) hG
      refine aw_lload dX9_chance_321 rfl ?_
      refine aw_lconst (z := 0) dX9_chance_323 (by decide) ?_
      refine aw_lcmp dX9_chance_324 ?_
      refine aw_if_eq 346 dX9_chance_325 rfl (fun c325 => ?_) (fun c325 => ?_)
      · exfalso
        rw [if_pos (by omega)] at c325
        omega
      · refine aw_lload dX9_chance_328 rfl ?_
        refine aw_lload dX9_chance_330 rfl ?_
        refine aw_lrem dX9_chance_332 (by omega) (by omega) ?_
        rw [hr]
        refine aw_lstore (ls' := [_, _, _, _, _, _, _, _, _, _, _, _, _, _]) dX9_chance_333 (by decide) rfl ?_
        refine aw_lload dX9_chance_335 rfl ?_
        refine aw_lstore (ls' := [_, _, _, _, _, _, _, _, _, _, _, _, _, _]) dX9_chance_337 (by decide) rfl ?_
        refine aw_lload dX9_chance_339 rfl ?_
        refine aw_lstore (ls' := [_, _, _, _, _, _, _, _, _, _, _, _, _, _]) dX9_chance_341 (by decide) rfl ?_
        refine aw_goto 321 dX9_chance_343 rfl ?_
        exact aw_less (by repeat' (first | exact trivial | exact rfl | apply And.intro)) z
end MOS
