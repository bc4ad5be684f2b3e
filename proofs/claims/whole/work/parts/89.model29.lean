/-! the reference: chance, all sets -/
theorem hF_bd {c : Int} {V : VW} {k s : Nat} (c0 : 0 ≤ c) (c1 : c ≤ 10) (hk : k ≤ 12) : 0 ≤ hF c V k s ∧ hF c V k s ≤ 1000000000000 := by
  have := wy_12 (V := V) (s := s) c0 c1 hk
  unfold hF
  split <;> omega
theorem pow10 : ∀ u : Nat, (0 : Int) < 10 ^ u
  | 0 => by decide
  | u + 1 => by
    have := pow10 u
    rw [Int.pow_succ]
    omega
theorem ifl0 {x : Int} (h : (if 0 < x then (1 : Int) else if x = 0 then 0 else -1) ≤ 0) : x ≤ 0 := by
  by_cases y : 0 < x
  · rw [if_pos y] at h; omega
  · omega
section MOT
variable {e q n L : Nat} {h : Mem} {σ : ST} {V : VW}
set_option maxHeartbeats 4000000 in
theorem l_chO {Q : Option AV → Tp → Mem → Prop} {c w B : Int} {N : Nat} (ev : mV h 379 0 = V) (hV : WFv V) (r0 : 0 ≤ V 0 4) (r1 : V 0 4 ≤ 9999) (hN : V 0 0 = (N : Int)) (c0 : 0 ≤ c) (c1 : c ≤ 10)
    (hk : ∀ hh, FT h hh → AW M_X9_chance 0 0 Q 313 [some (vR 373), some (vI c), some (vI w), some (vI (wN V N)), some (vL B), none, some (vL (As c N V)), none, none, none, none, none, none, none] [] (TT e q n L) hh 0 0) :
    ∀ (m s : Nat) (hh : Mem), s + m = wN V N + 1 → FT h hh → AW M_X9_chance 0 0 Q 120 [some (vR 373), some (vI c), some (vI w), some (vI (wN V N)), some (vL B), none, some (vL (SF (hF c V N) s)), none, some (vI s), none, none, none, none, none] [] (TT e q n L) hh 0 0 := by
  have v2 := hV.2.1
  have h12 : N ≤ 12 := by omega
  have lt := wN_lt (V := V) N
  have p12 : 2 ^ N ≤ 2 ^ 12 := Nat.pow_le_pow_right (by decide) h12
  intro m
  induction m with
  | zero =>
    intro s hh hi hf
    have es : s = wN V N + 1 := by omega
    subst es
    rw [SF_end]
    refine aw_iload dX9_chance_120 rfl ?_
    refine aw_iload_n dX9_chance_122 rfl ?_
    refine aw_icmp_gt 313 dX9_chance_123 rfl (fun c123 => ?_) (fun c123 => ?_)
    · exact aw_less (by repeat' (first | exact trivial | exact rfl | apply And.intro)) (hk hh hf)
    · exfalso; omega
  | succ m ih =>
    intro s hh hi hf
    have z := ih (s + 1)
    have sb := SF_s (F := hF c V N) (n := s) (by omega) (fun i => hF_bd c0 c1 h12)
    have hb := hF_bd (V := V) (s := s) c0 c1 h12
    have wy2 := wy_12 (V := V) (s := s) (k := N) c0 c1 h12
    have eS : SF (hF c V N) (s + 1) = SF (hF c V N) s + hF c V N s := rfl
    rw [eS] at z
    have ss := sub_sbs (V := V) (s := s) (N := N) h12 (by omega)
    have ad : ∀ (A2 : Int), A2 = SF (hF c V N) s + hF c V N s → ∀ hh2, FT h hh2 → AW M_X9_chance 0 0 Q 307 [some (vR 373), some (vI c), some (vI w), some (vI (wN V N)), some (vL B), none, some (vL A2), none, some (vI s), none, none, none, none, none] [] (TT e q n L) hh2 0 0 := by
      intro A2 hA hh2 f2
      subst hA
      have z2 := z hh2 (by omega) f2
      refine aw_iinc (ls' := [_, _, _, _, _, _, _, _, _, _, _, _, _, _]) dX9_chance_307 (by decide) rfl (by omega) (by omega) rfl ?_
      refine aw_goto 120 dX9_chance_310 rfl ?_
      exact aw_less (by repeat' (first | exact trivial | exact rfl | apply And.intro)) z2
    have ev2 : mV hh 379 0 = V := by rw [mV_fr (hf.1 379 (by decide) (by decide) (by decide) (by decide))]; exact ev
    have tl : sbs V s N = true → ∀ h1 : Mem, (∀ x, x ≠ 381 → h1 x = hh x) → mV h1 381 0 = gw V s N → AW M_X9_chance 0 0 Q 256 [some (vR 373), some (vI c), some (vI w), some (vI (wN V N)), some (vL B), none, some (vL (SF (hF c V N) s)), none, some (vI s), some (vL (wy c V s N)), none, none, none, none] [] (TT e q n L) h1 0 0 := by
      intro hsb h1 g1 e1
      have wG := gw_wf (s := s) hV N (by omega) hsb
      have wB := bgn_wf wG
      have j0 : gw V s N 0 0 = V 0 0 := gw_j N (Or.inl (by decide))
      have b4 : bgn (gw V s N) 0 4 = V 0 4 := by rw [bgn_0 (by decide) (by decide)]; exact gw_j N (Or.inl (by decide))
      have hok := settles_ok (stop := false) wB
      have y0 : wy c V s N ≤ 0 → hF c V N s = 0 := fun y => by
        unfold hF
        split
        · omega
        · rfl
      have y1 : (settles false (bgn (gw V s N))).2.2.1 = 0 → stl (settles false (bgn (gw V s N))).1 = true → hF c V N s = wy c V s N := fun a b => if_pos ⟨hsb, okS_tf.mpr ⟨a, b⟩⟩
      have y2 : ¬ ((settles false (bgn (gw V s N))).2.2.1 = 0 ∧ stl (settles false (bgn (gw V s N))).1 = true) → hF c V N s = 0 := fun a => if_neg (fun b => a (okS_tf.mp b.2))
      refine aw_aload_n dX9_chance_256 rfl ?_
      refine aw_getR1 dX9_chance_257 fx_RX9_31 (by first | rfl | assumption) (by first | rfl | assumption) ?_
      refine aw_s1q dX9_chance_260 sl_RX9_215 (Nat.le_of_ble_eq_true rfl) (Nat.le_of_ble_eq_true rfl) (Nat.le_of_ble_eq_true rfl) (Nat.le_refl _) (Nat.le_refl _) (c_X9_begins (a := 381) rfl (by decide) e1 (by omega) (by omega)) ?_
      intro v t' h3 hq
      obtain ⟨rfl, rfl, g3, g4⟩ := hq
      have f3 : FT h h3 := ⟨fun x x1 x2 x3 x4 => by rw [g4 x x1, g1 x x1]; exact hf.1 x x1 x2 x3 x4, fun k hk2 => by rw [g4 373 (by decide), g1 373 (by decide)]; exact hf.2 k hk2⟩
      refine aw_lload dX9_chance_263 rfl ?_
      refine aw_lconst (z := 0) dX9_chance_265 (by decide) ?_
      refine aw_lcmp dX9_chance_266 ?_
      refine aw_if_le 307 dX9_chance_267 rfl (fun c267 => ?_) (fun c267 => ?_)
      · exact aw_less (by repeat' (first | exact trivial | exact rfl | apply And.intro)) (ad _ (by rw [y0 (ifl0 c267), Int.add_zero]) h3 f3)
      · refine aw_aload_n dX9_chance_270 rfl ?_
        refine aw_aload_n dX9_chance_271 rfl ?_
        refine aw_getR1 dX9_chance_272 fx_RX9_31 (by first | rfl | assumption) (by first | rfl | assumption) ?_
        refine aw_v1q dX9_chance_275 vl_RX9_198 (by first | rfl | assumption) (Nat.le_of_ble_eq_true rfl) (Nat.le_of_ble_eq_true rfl) (Nat.le_of_ble_eq_true rfl) (Nat.le_refl _) (Nat.le_refl _) (c_X9_settles (a := 381) rfl (Or.inr (Or.inr rfl)) g3 wB (by omega) (by omega)) ?_
        intro v t' h4 hq
        obtain ⟨rfl, rfl, s1, s2, s3, s4, s5⟩ := hq
        have f4 : FT h h4 := f3.tr ⟨s5.1, s5.2⟩
        refine aw_lload dX9_chance_278 rfl ?_
        refine aw_aload_n dX9_chance_280 rfl ?_
        refine aw_getI dX9_chance_281 fx_RX9_169 (by first | rfl | assumption) ?_
        rw [s3]
        refine aw_if_ne 303 dX9_chance_284 rfl (fun c284 => ?_) (fun c284 => ?_)
        · refine aw_lconst (z := 0) dX9_chance_303 (by decide) ?_
          refine aw_ladd dX9_chance_304 (by omega) (by omega) ?_
          refine aw_lstore (ls' := [_, _, _, _, _, _, _, _, _, _, _, _, _, _]) dX9_chance_305 (by decide) rfl ?_
          first | exact aw_less (by repeat' (first | exact trivial | exact rfl | apply And.intro)) (ad _ (by rw [y1 c284 (ifb1 c295)]) _ f5) | exact aw_less (by repeat' (first | exact trivial | exact rfl | apply And.intro)) (ad _ (by rw [y2 (fun a => by rw [if_pos a.2] at c295; exact absurd c295 (by decide))]) _ f5) | exact aw_less (by repeat' (first | exact trivial | exact rfl | apply And.intro)) (ad _ (by rw [y2 (fun a => c284 a.1)]) _ f4)
        · refine aw_aload_n dX9_chance_287 rfl ?_
          refine aw_aload_n dX9_chance_288 rfl ?_
          refine aw_getR1 dX9_chance_289 fx_RX9_31 (by first | rfl | assumption) (by first | rfl | assumption) ?_
          refine aw_v1q dX9_chance_292 vl_RX9_179 (by first | rfl | assumption) (Nat.le_of_ble_eq_true rfl) (Nat.le_of_ble_eq_true rfl) (Nat.le_of_ble_eq_true rfl) (Nat.le_refl _) (Nat.le_refl _) (c_X9_isSettled (a := 381) rfl (by decide) s1 (addR_wf hok.1)) ?_
          intro v t' h5 hq
          obtain ⟨rfl, rfl, u1⟩ := hq
          rw [stlA]
          have f5 : FT h h5 := f4.tr ⟨fun x x1 x2 x3 x4 => u1 x x3, fun k _ => by rw [u1 373 (by decide)]⟩
          refine aw_if_eq 303 dX9_chance_295 rfl (fun c295 => ?_) (fun c295 => ?_)
          · refine aw_lconst (z := 0) dX9_chance_303 (by decide) ?_
            refine aw_ladd dX9_chance_304 (by omega) (by omega) ?_
            refine aw_lstore (ls' := [_, _, _, _, _, _, _, _, _, _, _, _, _, _]) dX9_chance_305 (by decide) rfl ?_
            first | exact aw_less (by repeat' (first | exact trivial | exact rfl | apply And.intro)) (ad _ (by rw [y1 c284 (ifb1 c295)]) _ f5) | exact aw_less (by repeat' (first | exact trivial | exact rfl | apply And.intro)) (ad _ (by rw [y2 (fun a => by rw [if_pos a.2] at c295; exact absurd c295 (by decide))]) _ f5) | exact aw_less (by repeat' (first | exact trivial | exact rfl | apply And.intro)) (ad _ (by rw [y2 (fun a => c284 a.1)]) _ f4)
          · refine aw_lload dX9_chance_298 rfl ?_
            refine aw_goto 304 dX9_chance_300 rfl ?_
            refine aw_ladd dX9_chance_304 (by omega) (by omega) ?_
            refine aw_lstore (ls' := [_, _, _, _, _, _, _, _, _, _, _, _, _, _]) dX9_chance_305 (by decide) rfl ?_
            first | exact aw_less (by repeat' (first | exact trivial | exact rfl | apply And.intro)) (ad _ (by rw [y1 c284 (ifb1 c295)]) _ f5) | exact aw_less (by repeat' (first | exact trivial | exact rfl | apply And.intro)) (ad _ (by rw [y2 (fun a => by rw [if_pos a.2] at c295; exact absurd c295 (by decide))]) _ f5) | exact aw_less (by repeat' (first | exact trivial | exact rfl | apply And.intro)) (ad _ (by rw [y2 (fun a => c284 a.1)]) _ f4)
    refine aw_iload dX9_chance_120 rfl ?_
    refine aw_iload_n dX9_chance_122 rfl ?_
    refine aw_icmp_gt 313 dX9_chance_123 rfl (fun c123 => ?_) (fun c123 => ?_)
    · exfalso; omega
    · refine aw_iload dX9_chance_126 rfl ?_
      refine aw_iload_n dX9_chance_128 rfl ?_
      refine aw_iconst dX9_chance_129 (by decide) (by decide) ?_
      refine aw_ixorw dX9_chance_130 ?_
      refine aw_iandw dX9_chance_131 ?_
      refine aw_if_ne 307 dX9_chance_132 rfl (fun c132 => ?_) (fun c132 => ?_)
      · exact aw_less (by repeat' (first | exact trivial | exact rfl | apply And.intro)) (ad _ (by rw [show hF c V N s = 0 from if_neg (fun y => c132 (ss.mpr y.1)), Int.add_zero]) hh hf)
      · refine aw_lconst (z := 1) dX9_chance_135 (by decide) ?_
        refine aw_lstore (ls' := [_, _, _, _, _, _, _, _, _, _, _, _, _, _]) dX9_chance_136 (by decide) rfl ?_
        refine aw_aload_n dX9_chance_138 rfl ?_
        refine aw_getR1 dX9_chance_139 fx_RX9_25 (by first | rfl | assumption) (by first | rfl | assumption) ?_
        refine aw_iconst dX9_chance_142 (by decide) (by decide) ?_
        refine aw_aload_n dX9_chance_143 rfl ?_
        refine aw_getR1 dX9_chance_144 fx_RX9_31 (by first | rfl | assumption) (by first | rfl | assumption) ?_
        refine aw_iconst dX9_chance_147 (by decide) (by decide) ?_
        refine aw_s4q dX9_chance_148 sl_RX9_145 (Nat.le_of_ble_eq_true rfl) (Nat.le_of_ble_eq_true rfl) (Nat.le_of_ble_eq_true rfl) (Nat.le_refl _) (Nat.le_refl _) (c_X9_copies (Nx := 53) (Ny := 53) rfl rfl (by decide) (by omega) (by omega) (by omega) (by omega) (by decide) (by decide) (by decide)) ?_
        intro v t' h1 hq
        obtain ⟨rfl, rfl, k1, k2, k3⟩ := hq
        have ev1 := ev_copy ev2 v2 k1
        refine aw_iconst dX9_chance_151 (by decide) (by decide) ?_
        refine aw_istore (ls' := [_, _, _, _, _, _, _, _, _, _, _, _, _, _]) dX9_chance_152 (by decide) rfl ?_
        refine aw_less (by repeat' (first | exact trivial | exact rfl | apply And.intro)) (l_chI (h := h1) (V := V) (s := s) hV hN (by rw [k3 379 (by decide)]; exact mA_c ev2) c0 c1 (by omega) (ss.mp c132) (fun h2 g1 g2 => ?_) N 0 h1 none (by omega) (fun _ _ => rfl) ev1)
        exact tl (ss.mp c132) h2 (fun x hx => by rw [g1 x hx, k3 x hx]) g2
theorem c_X9_chance {c w : Int} (hM : MS h σ) (hW : WFst σ) : Sem M_X9_chance [vR 373, vI c, vI w] (TT e q n L) h 0 0 (PMl (sp_chance σ c w) h (TT e q n L)) := by
  unfold sp_chance
  have ev : mV h 379 0 = s_liv σ := hM.2.2.2.2.1
  have e0 : h 379 0 = s_liv σ 0 1 := mA_w ev
  have ws := wf_sh hW.2.2.2.1
  have tl : ∀ N : Nat, s_liv σ 0 0 = (N : Int) → s_liv σ 0 0 ≠ 0 → 0 ≤ c → c ≤ 10 → AW M_X9_chance 0 0 (PMl ((if w = 0 then Gs c N (s_liv σ) else gB (s_liv σ) N) / (Int.gcd (Gs c N (s_liv σ)) (gB (s_liv σ) N) : Int), σ) h (TT e q n L)) 42 [some (vR 373), some (vI c), some (vI w), some (vI 0), some (vL 1), none, some (vI 0), none, none, none, none, none, none, none] [] (TT e q n L) h 0 0 := by
    intro N hN hn c0 c1
    have hL := wf_liv hW.2.2.2.1 hn
    have bb := bN_12 (V := s_liv σ) (k := N) (by omega)
    have ga := Gs_0 c0 c1 N (s_liv σ)
    have pw := pow10 (uN (s_liv σ) N)
    have a0 : 0 ≤ As c N (s_liv σ) := by rw [As_Gs]; exact Int.mul_nonneg (by omega) ga
    have gg : 0 < Int.gcd (As c N (s_liv σ)) (bN (s_liv σ) N) := Int.gcd_pos_of_ne_zero_right _ (by omega)
    have fA : As c N (s_liv σ) / (Int.gcd (As c N (s_liv σ)) (bN (s_liv σ) N) : Int) = Gs c N (s_liv σ) / (Int.gcd (Gs c N (s_liv σ)) (gB (s_liv σ) N) : Int) := by rw [As_Gs, bN_gB]; exact frac_eq pw
    have fB : bN (s_liv σ) N / (Int.gcd (As c N (s_liv σ)) (bN (s_liv σ) N) : Int) = gB (s_liv σ) N / (Int.gcd (Gs c N (s_liv σ)) (gB (s_liv σ) N) : Int) := by rw [As_Gs, bN_gB]; exact frac_eq pw
    have lt := wN_lt (V := s_liv σ) N
    refine l_chW ev hN (by omega) ?_ N 0 none (by omega)
    rw [wN_bset N (by omega)]
    have t6 : ∀ hh : Mem, FT h hh → AW M_X9_chance 0 0 (PMl ((if w = 0 then Gs c N (s_liv σ) else gB (s_liv σ) N) / (Int.gcd (Gs c N (s_liv σ)) (gB (s_liv σ) N) : Int), σ) h (TT e q n L)) 346 [some (vR 373), some (vI c), some (vI w), some (vI (wN (s_liv σ) N)), some (vL (bN (s_liv σ) N)), none, some (vL (As c N (s_liv σ))), none, some (vL (Int.gcd (As c N (s_liv σ)) (bN (s_liv σ) N) : Int)), none, none, none, none, none] [] (TT e q n L) hh 0 0 := by
      intro hh f
      have fin : ∀ x y : Int, x = y → PMl (y, σ) h (TT e q n L) (some (vL x)) (TT e q n L) hh := fun x y z => by subst z; exact ⟨rfl, rfl, f.sm.ms hM, fun c hc => f.sm.1 c (by omega)⟩
      refine aw_iload_n dX9_chance_346 rfl ?_
      refine aw_if_ne 355 dX9_chance_347 rfl (fun c347 => ?_) (fun c347 => ?_)
      · refine aw_lload dX9_chance_355 rfl ?_
        refine aw_lload dX9_chance_357 rfl ?_
        refine aw_ldiv dX9_chance_359 (by omega) (by omega) ?_
        refine aw_lreturn dX9_chance_360 rfl (Nat.le_refl _) (Nat.le_refl _) ?_
        first | (rw [if_pos (by omega)]; exact fin _ _ fA) | (rw [if_neg (by omega)]; exact fin _ _ fB)
      · refine aw_lload dX9_chance_350 rfl ?_
        refine aw_goto 357 dX9_chance_352 rfl ?_
        refine aw_lload dX9_chance_357 rfl ?_
        refine aw_ldiv dX9_chance_359 (by omega) (by omega) ?_
        refine aw_lreturn dX9_chance_360 rfl (Nat.le_refl _) (Nat.le_refl _) ?_
        first | (rw [if_pos (by omega)]; exact fin _ _ fA) | (rw [if_neg (by omega)]; exact fin _ _ fB)
    have t3 : ∀ hh : Mem, FT h hh → AW M_X9_chance 0 0 (PMl ((if w = 0 then Gs c N (s_liv σ) else gB (s_liv σ) N) / (Int.gcd (Gs c N (s_liv σ)) (gB (s_liv σ) N) : Int), σ) h (TT e q n L)) 313 [some (vR 373), some (vI c), some (vI w), some (vI (wN (s_liv σ) N)), some (vL (bN (s_liv σ) N)), none, some (vL (As c N (s_liv σ))), none, none, none, none, none, none, none] [] (TT e q n L) hh 0 0 := by
      intro hh f
      have eb : ((bN (s_liv σ) N).toNat : Int) = bN (s_liv σ) N := by omega
      have z := l_chG (h := hh) (W0 := wN (s_liv σ) N) (G := Int.gcd (As c N (s_liv σ)) (bN (s_liv σ) N)) (t6 hh f) (bN (s_liv σ) N).toNat (bN (s_liv σ) N).toNat (As c N (s_liv σ)) (Nat.le_refl _) a0 (by rw [eb])
      rw [eb] at z
      refine aw_lload dX9_chance_313 rfl ?_
      refine aw_lstore (ls' := [_, _, _, _, _, _, _, _, _, _, _, _, _, _]) dX9_chance_315 (by decide) rfl ?_
      refine aw_lload dX9_chance_317 rfl ?_
      refine aw_lstore (ls' := [_, _, _, _, _, _, _, _, _, _, _, _, _, _]) dX9_chance_319 (by decide) rfl ?_
      exact aw_less (by repeat' (first | exact trivial | exact rfl | apply And.intro)) z
    have t1 := l_chO (h := h) (w := w) (B := bN (s_liv σ) N) ev hL.1 hL.2.1 hL.2.2.1 hN c0 c1 t3 (wN (s_liv σ) N + 1) 0 h (by omega) ⟨fun _ _ _ _ _ => rfl, fun _ _ => rfl⟩
    refine aw_lconst (z := 0) dX9_chance_114 (by decide) ?_
    refine aw_lstore (ls' := [_, _, _, _, _, _, _, _, _, _, _, _, _, _]) dX9_chance_115 (by decide) rfl ?_
    refine aw_iconst dX9_chance_117 (by decide) (by decide) ?_
    refine aw_istore (ls' := [_, _, _, _, _, _, _, _, _, _, _, _, _, _]) dX9_chance_118 (by decide) rfl ?_
    exact aw_less (by repeat' (first | exact trivial | exact rfl | apply And.intro)) t1
  refine sem_intro (by decide) rfl (Nat.le_of_ble_eq_true rfl) rfl ?_
  refine aw_aload_n dX9_chance_0 rfl ?_
  refine aw_v0i dX9_chance_1 vl_RX9_191 (by first | rfl | assumption) (Nat.le_of_ble_eq_true rfl) (Nat.le_of_ble_eq_true rfl) (Nat.le_of_ble_eq_true rfl) (Nat.le_refl _) (Nat.le_refl _) (c_X9_isSheet) ?_
  refine aw_ifB_ne 11 dX9_chance_4 rfl (fun c4 => ?_) (fun c4 => ?_)
  · refine aw_iload_n dX9_chance_11 rfl ?_
    refine aw_iconst dX9_chance_12 (by decide) (by decide) ?_
    refine aw_bipush dX9_chance_13 (by decide) (by decide) ?_
    refine aw_s3i dX9_chance_15 sl_RX9_62 (Nat.le_of_ble_eq_true rfl) (Nat.le_of_ble_eq_true rfl) (Nat.le_of_ble_eq_true rfl) (Nat.le_refl _) (Nat.le_refl _) (c_X9_in) ?_
    refine aw_ifB_eq 30 dX9_chance_18 rfl (fun c18 => ?_) (fun c18 => ?_)
    · refine aw_ldc2 (n := -1000001) dX9_chance_30 kl_RX9_234 (by decide) ?_
      refine aw_lreturn dX9_chance_33 rfl (Nat.le_refl _) (Nat.le_refl _) ?_
      rw [if_neg (by omega), if_pos (by omega)]
      exact ⟨rfl, rfl, hM, fun _ _ => rfl⟩
    · refine aw_iload_n dX9_chance_21 rfl ?_
      refine aw_iconst dX9_chance_22 (by decide) (by decide) ?_
      refine aw_iconst dX9_chance_23 (by decide) (by decide) ?_
      refine aw_s3i dX9_chance_24 sl_RX9_62 (Nat.le_of_ble_eq_true rfl) (Nat.le_of_ble_eq_true rfl) (Nat.le_of_ble_eq_true rfl) (Nat.le_refl _) (Nat.le_refl _) (c_X9_in) ?_
      refine aw_ifB_ne 34 dX9_chance_27 rfl (fun c27 => ?_) (fun c27 => ?_)
      · refine aw_iconst dX9_chance_34 (by decide) (by decide) ?_
        refine aw_istore_n (ls' := [_, _, _, _, _, _, _, _, _, _, _, _, _, _]) dX9_chance_35 (by decide) rfl ?_
        refine aw_lconst (z := 1) dX9_chance_36 (by decide) ?_
        refine aw_lstore (ls' := [_, _, _, _, _, _, _, _, _, _, _, _, _, _]) dX9_chance_37 (by decide) rfl ?_
        refine aw_iconst dX9_chance_39 (by decide) (by decide) ?_
        refine aw_istore (ls' := [_, _, _, _, _, _, _, _, _, _, _, _, _, _]) dX9_chance_40 (by decide) rfl ?_
        rw [if_neg (by omega), if_neg (by omega)]
        exact aw_less (by repeat' (first | exact trivial | exact rfl | apply And.intro)) (tl (s_liv σ 0 0).toNat (by omega) (by omega) (by omega) (by omega))
      · refine aw_ldc2 (n := -1000001) dX9_chance_30 kl_RX9_234 (by decide) ?_
        refine aw_lreturn dX9_chance_33 rfl (Nat.le_refl _) (Nat.le_refl _) ?_
        rw [if_neg (by omega), if_pos (by omega)]
        exact ⟨rfl, rfl, hM, fun _ _ => rfl⟩
  · refine aw_ldc2 (n := -1000002) dX9_chance_7 kl_RX9_232 (by decide) ?_
    refine aw_lreturn dX9_chance_10 rfl (Nat.le_refl _) (Nat.le_refl _) ?_
    rw [if_pos (by omega)]
    exact ⟨rfl, rfl, hM, fun _ _ => rfl⟩
end MOT
