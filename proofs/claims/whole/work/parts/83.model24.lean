/-! the reference: what moves, rooms, the restless -/
section MOO
variable {e q n L : Nat} {h : Mem} {σ : ST} {V : VW}
theorem l_mvA {Q : Option AV → Tp → Mem → Prop} {i : Int} (hk : ∀ hh, (∀ c, c ≠ 386 → hh c = h c) → (∀ j : Int, 0 ≤ j → j < 36 → hh 386 j = h 385 j) → AW M_X9_moves 0 0 Q 62 [some (vR 373), some (vI i), none, none, none] [] (TT e q n L) hh 0 0) :
    ∀ (m k : Nat) (hh : Mem), k + m = 36 → (∀ c, c ≠ 386 → hh c = h c) → (∀ j : Int, 0 ≤ j → j < k → hh 386 j = h 385 j) → AW M_X9_moves 0 0 Q 38 [some (vR 373), some (vI i), some (vI k), none, none] [] (TT e q n L) hh 0 0 := by
  intro m
  induction m with
  | zero =>
    intro k hh hi g1 g2
    have ek : k = 36 := by omega
    subst ek
    refine aw_iload_n dX9_moves_38 rfl ?_
    refine aw_bipush dX9_moves_39 (by decide) (by decide) ?_
    refine aw_icmp_ge 62 dX9_moves_41 rfl (fun c41 => ?_) (fun c41 => ?_)
    · exact aw_less (by repeat' (first | exact trivial | exact rfl | apply And.intro)) (hk hh g1 g2)
    · exfalso; omega
  | succ m ih =>
    intro k hh hi g1 g2
    have z := ih (k + 1)
    have e1 : hh 385 = h 385 := g1 385 (by decide)
    refine aw_iload_n dX9_moves_38 rfl ?_
    refine aw_bipush dX9_moves_39 (by decide) (by decide) ?_
    refine aw_icmp_ge 62 dX9_moves_41 rfl (fun c41 => ?_) (fun c41 => ?_)
    · exfalso; omega
    · refine aw_aload_n dX9_moves_44 rfl ?_
      refine aw_getR1 dX9_moves_45 fx_RX9_47 (by first | rfl | assumption) (by first | rfl | assumption) ?_
      refine aw_iload_n dX9_moves_48 rfl ?_
      refine aw_aload_n dX9_moves_49 rfl ?_
      refine aw_getR1 dX9_moves_50 fx_RX9_44 (by first | rfl | assumption) (by first | rfl | assumption) ?_
      refine aw_iload_n dX9_moves_53 rfl ?_
      refine aw_iaload dX9_moves_54 (by first | rfl | assumption) (by omega) (by omega) ?_
      rw [e1]
      refine aw_iastore dX9_moves_55 (by first | rfl | assumption) (by omega) (by omega) (by omega) ?_
      refine aw_iinc (ls' := [_, _, _, _, _]) dX9_moves_56 (by decide) rfl (by omega) (by omega) rfl ?_
      refine aw_goto 38 dX9_moves_59 rfl ?_
      refine z _ (by omega) (fun c hc => by rw [am_up_ne hc]; exact g1 c hc) (fun j j0 j1 => ?_)
      unfold am_up
      by_cases y : j = k
      · subst y; rw [if_pos ⟨rfl, rfl⟩]
      · rw [if_neg (by omega)]; exact g2 j j0 (by omega)
theorem l_mvB {Q : Option AV → Tp → Mem → Prop} {i : Int} {N : Nat} (ev : mV h 379 0 = V) (v2 : V 0 0 ≤ 12) (hN : V 0 0 = (N : Int)) (hD : ∀ j : Nat, j < N → h 386 (3 * j) = (stand V zz j).1 ∧ h 386 (3 * j + 1) = (stand V zz j).2.1 ∧ h 386 (3 * j + 2) = (stand V zz j).2.2) (hE : ∀ j : Nat, j < N → h 385 (3 * j) = (stand V (ex1 i) j).1 ∧ h 385 (3 * j + 1) = (stand V (ex1 i) j).2.1 ∧ h 385 (3 * j + 2) = (stand V (ex1 i) j).2.2) (hk : Q (some (vI (bset (movP V i) N))) (TT e q n L) h) :
    ∀ (m k : Nat) (z : Option AV), k + m = N → AW M_X9_moves 0 0 Q 76 [some (vR 373), some (vI i), some (vI (bset (movP V i) k)), some (vI k), z] [] (TT e q n L) h 0 0 := by
  have ea := mA_c ev
  intro m
  induction m with
  | zero =>
    intro k z hi
    have ek : k = N := by omega
    subst ek
    refine aw_iload_n dX9_moves_76 rfl ?_
    refine aw_aload_n dX9_moves_77 rfl ?_
    refine aw_getR1 dX9_moves_78 fx_RX9_25 (by first | rfl | assumption) (by first | rfl | assumption) ?_
    refine aw_iconst dX9_moves_81 (by decide) (by decide) ?_
    refine aw_iaload dX9_moves_82 (by first | rfl | assumption) (by omega) (by omega) ?_
    rw [ea]
    refine aw_icmp_ge 179 dX9_moves_83 rfl (fun c83 => ?_) (fun c83 => ?_)
    · refine aw_iload_n dX9_moves_179 rfl ?_
      refine aw_ireturn dX9_moves_180 rfl (Nat.le_refl _) (Nat.le_refl _) ?_
      exact hk
    · exfalso; omega
  | succ m ih =>
    intro k zz0 hi
    have z := fun y => ih (k + 1) y (by omega)
    obtain ⟨d1, d2, d3⟩ := hD k (by omega)
    obtain ⟨b1, b2, b3⟩ := hE k (by omega)
    have y1 : ∀ y, ¬ stand V (ex1 i) k = stand V zz k → AW M_X9_moves 0 0 Q 76 [some (vR 373), some (vI i), some (vI (ior (bset (movP V i) k) (shl1 k))), some (vI ((k : Int) + 1)), y] [] (TT e q n L) h 0 0 := fun y hy => by
      have := z y
      rw [bset_t (P := movP V i) (decide_eq_true hy)] at this
      exact this
    have y0 : ∀ y, stand V (ex1 i) k = stand V zz k → AW M_X9_moves 0 0 Q 76 [some (vR 373), some (vI i), some (vI (ior (bset (movP V i) k) 0)), some (vI ((k : Int) + 1)), y] [] (TT e q n L) h 0 0 := fun y hy => by
      have := z y
      rw [bset_f (P := movP V i) (decide_eq_false (fun w => w hy)), ← ior_0] at this
      exact this
    refine aw_iload_n dX9_moves_76 rfl ?_
    refine aw_aload_n dX9_moves_77 rfl ?_
    refine aw_getR1 dX9_moves_78 fx_RX9_25 (by first | rfl | assumption) (by first | rfl | assumption) ?_
    refine aw_iconst dX9_moves_81 (by decide) (by decide) ?_
    refine aw_iaload dX9_moves_82 (by first | rfl | assumption) (by omega) (by omega) ?_
    rw [ea]
    refine aw_icmp_ge 179 dX9_moves_83 rfl (fun c83 => ?_) (fun c83 => ?_)
    · exfalso; omega
    · refine aw_aload_n dX9_moves_86 rfl ?_
      refine aw_getR1 dX9_moves_87 fx_RX9_47 (by first | rfl | assumption) (by first | rfl | assumption) ?_
      refine aw_iconst dX9_moves_90 (by decide) (by decide) ?_
      refine aw_iload_n dX9_moves_91 rfl ?_
      refine aw_imul dX9_moves_92 (by omega) (by omega) ?_
      refine aw_iaload dX9_moves_93 (by first | rfl | assumption) (by omega) (by omega) ?_
      refine aw_aload_n dX9_moves_94 rfl ?_
      refine aw_getR1 dX9_moves_95 fx_RX9_44 (by first | rfl | assumption) (by first | rfl | assumption) ?_
      refine aw_iconst dX9_moves_98 (by decide) (by decide) ?_
      refine aw_iload_n dX9_moves_99 rfl ?_
      refine aw_imul dX9_moves_100 (by omega) (by omega) ?_
      refine aw_iaload dX9_moves_101 (by first | rfl | assumption) (by omega) (by omega) ?_
      rw [d1, b1]
      refine aw_icmp_ne 155 dX9_moves_102 rfl (fun c102 => ?_) (fun c102 => ?_)
      · refine aw_iconst dX9_moves_155 (by decide) (by decide) ?_
        refine aw_istore (ls' := [_, _, _, _, _]) dX9_moves_156 (by decide) rfl ?_
        refine aw_iload_n dX9_moves_158 rfl ?_
        refine aw_iload dX9_moves_159 rfl ?_
        refine aw_if_eq 168 dX9_moves_161 rfl (fun c161 => ?_) (fun c161 => ?_)
        · refine aw_iconst dX9_moves_168 (by decide) (by decide) ?_
          refine aw_iload_n dX9_moves_169 rfl ?_
          refine aw_ishlw dX9_moves_170 ?_
          refine aw_iorw dX9_moves_171 ?_
          refine aw_istore_n (ls' := [_, _, _, _, _]) dX9_moves_172 (by decide) rfl ?_
          refine aw_iinc (ls' := [_, _, _, _, _]) dX9_moves_173 (by decide) rfl (by omega) (by omega) rfl ?_
          refine aw_goto 76 dX9_moves_176 rfl ?_
          first | (exfalso; omega) | exact y0 _ (Prod.ext (by omega) (Prod.ext (by omega) (by omega))) | exact y1 _ (fun w => by first | exact c102 (by rw [w]) | exact c125 (by rw [w]) | exact c148 (by rw [w]))
        · refine aw_iconst dX9_moves_164 (by decide) (by decide) ?_
          refine aw_goto 171 dX9_moves_165 rfl ?_
          refine aw_iorw dX9_moves_171 ?_
          refine aw_istore_n (ls' := [_, _, _, _, _]) dX9_moves_172 (by decide) rfl ?_
          refine aw_iinc (ls' := [_, _, _, _, _]) dX9_moves_173 (by decide) rfl (by omega) (by omega) rfl ?_
          refine aw_goto 76 dX9_moves_176 rfl ?_
          first | (exfalso; omega) | exact y0 _ (Prod.ext (by omega) (Prod.ext (by omega) (by omega))) | exact y1 _ (fun w => by first | exact c102 (by rw [w]) | exact c125 (by rw [w]) | exact c148 (by rw [w]))
      · refine aw_aload_n dX9_moves_105 rfl ?_
        refine aw_getR1 dX9_moves_106 fx_RX9_47 (by first | rfl | assumption) (by first | rfl | assumption) ?_
        refine aw_iconst dX9_moves_109 (by decide) (by decide) ?_
        refine aw_iload_n dX9_moves_110 rfl ?_
        refine aw_imul dX9_moves_111 (by omega) (by omega) ?_
        refine aw_iconst dX9_moves_112 (by decide) (by decide) ?_
        refine aw_iadd dX9_moves_113 (by omega) (by omega) ?_
        refine aw_iaload dX9_moves_114 (by first | rfl | assumption) (by omega) (by omega) ?_
        refine aw_aload_n dX9_moves_115 rfl ?_
        refine aw_getR1 dX9_moves_116 fx_RX9_44 (by first | rfl | assumption) (by first | rfl | assumption) ?_
        refine aw_iconst dX9_moves_119 (by decide) (by decide) ?_
        refine aw_iload_n dX9_moves_120 rfl ?_
        refine aw_imul dX9_moves_121 (by omega) (by omega) ?_
        refine aw_iconst dX9_moves_122 (by decide) (by decide) ?_
        refine aw_iadd dX9_moves_123 (by omega) (by omega) ?_
        refine aw_iaload dX9_moves_124 (by first | rfl | assumption) (by omega) (by omega) ?_
        rw [d2, b2]
        refine aw_icmp_ne 155 dX9_moves_125 rfl (fun c125 => ?_) (fun c125 => ?_)
        · refine aw_iconst dX9_moves_155 (by decide) (by decide) ?_
          refine aw_istore (ls' := [_, _, _, _, _]) dX9_moves_156 (by decide) rfl ?_
          refine aw_iload_n dX9_moves_158 rfl ?_
          refine aw_iload dX9_moves_159 rfl ?_
          refine aw_if_eq 168 dX9_moves_161 rfl (fun c161 => ?_) (fun c161 => ?_)
          · refine aw_iconst dX9_moves_168 (by decide) (by decide) ?_
            refine aw_iload_n dX9_moves_169 rfl ?_
            refine aw_ishlw dX9_moves_170 ?_
            refine aw_iorw dX9_moves_171 ?_
            refine aw_istore_n (ls' := [_, _, _, _, _]) dX9_moves_172 (by decide) rfl ?_
            refine aw_iinc (ls' := [_, _, _, _, _]) dX9_moves_173 (by decide) rfl (by omega) (by omega) rfl ?_
            refine aw_goto 76 dX9_moves_176 rfl ?_
            first | (exfalso; omega) | exact y0 _ (Prod.ext (by omega) (Prod.ext (by omega) (by omega))) | exact y1 _ (fun w => by first | exact c102 (by rw [w]) | exact c125 (by rw [w]) | exact c148 (by rw [w]))
          · refine aw_iconst dX9_moves_164 (by decide) (by decide) ?_
            refine aw_goto 171 dX9_moves_165 rfl ?_
            refine aw_iorw dX9_moves_171 ?_
            refine aw_istore_n (ls' := [_, _, _, _, _]) dX9_moves_172 (by decide) rfl ?_
            refine aw_iinc (ls' := [_, _, _, _, _]) dX9_moves_173 (by decide) rfl (by omega) (by omega) rfl ?_
            refine aw_goto 76 dX9_moves_176 rfl ?_
            first | (exfalso; omega) | exact y0 _ (Prod.ext (by omega) (Prod.ext (by omega) (by omega))) | exact y1 _ (fun w => by first | exact c102 (by rw [w]) | exact c125 (by rw [w]) | exact c148 (by rw [w]))
        · refine aw_aload_n dX9_moves_128 rfl ?_
          refine aw_getR1 dX9_moves_129 fx_RX9_47 (by first | rfl | assumption) (by first | rfl | assumption) ?_
          refine aw_iconst dX9_moves_132 (by decide) (by decide) ?_
          refine aw_iload_n dX9_moves_133 rfl ?_
          refine aw_imul dX9_moves_134 (by omega) (by omega) ?_
          refine aw_iconst dX9_moves_135 (by decide) (by decide) ?_
          refine aw_iadd dX9_moves_136 (by omega) (by omega) ?_
          refine aw_iaload dX9_moves_137 (by first | rfl | assumption) (by omega) (by omega) ?_
          refine aw_aload_n dX9_moves_138 rfl ?_
          refine aw_getR1 dX9_moves_139 fx_RX9_44 (by first | rfl | assumption) (by first | rfl | assumption) ?_
          refine aw_iconst dX9_moves_142 (by decide) (by decide) ?_
          refine aw_iload_n dX9_moves_143 rfl ?_
          refine aw_imul dX9_moves_144 (by omega) (by omega) ?_
          refine aw_iconst dX9_moves_145 (by decide) (by decide) ?_
          refine aw_iadd dX9_moves_146 (by omega) (by omega) ?_
          refine aw_iaload dX9_moves_147 (by first | rfl | assumption) (by omega) (by omega) ?_
          rw [d3, b3]
          refine aw_icmp_ne 155 dX9_moves_148 rfl (fun c148 => ?_) (fun c148 => ?_)
          · refine aw_iconst dX9_moves_155 (by decide) (by decide) ?_
            refine aw_istore (ls' := [_, _, _, _, _]) dX9_moves_156 (by decide) rfl ?_
            refine aw_iload_n dX9_moves_158 rfl ?_
            refine aw_iload dX9_moves_159 rfl ?_
            refine aw_if_eq 168 dX9_moves_161 rfl (fun c161 => ?_) (fun c161 => ?_)
            · refine aw_iconst dX9_moves_168 (by decide) (by decide) ?_
              refine aw_iload_n dX9_moves_169 rfl ?_
              refine aw_ishlw dX9_moves_170 ?_
              refine aw_iorw dX9_moves_171 ?_
              refine aw_istore_n (ls' := [_, _, _, _, _]) dX9_moves_172 (by decide) rfl ?_
              refine aw_iinc (ls' := [_, _, _, _, _]) dX9_moves_173 (by decide) rfl (by omega) (by omega) rfl ?_
              refine aw_goto 76 dX9_moves_176 rfl ?_
              first | (exfalso; omega) | exact y0 _ (Prod.ext (by omega) (Prod.ext (by omega) (by omega))) | exact y1 _ (fun w => by first | exact c102 (by rw [w]) | exact c125 (by rw [w]) | exact c148 (by rw [w]))
            · refine aw_iconst dX9_moves_164 (by decide) (by decide) ?_
              refine aw_goto 171 dX9_moves_165 rfl ?_
              refine aw_iorw dX9_moves_171 ?_
              refine aw_istore_n (ls' := [_, _, _, _, _]) dX9_moves_172 (by decide) rfl ?_
              refine aw_iinc (ls' := [_, _, _, _, _]) dX9_moves_173 (by decide) rfl (by omega) (by omega) rfl ?_
              refine aw_goto 76 dX9_moves_176 rfl ?_
              first | (exfalso; omega) | exact y0 _ (Prod.ext (by omega) (Prod.ext (by omega) (by omega))) | exact y1 _ (fun w => by first | exact c102 (by rw [w]) | exact c125 (by rw [w]) | exact c148 (by rw [w]))
          · refine aw_iconst dX9_moves_151 (by decide) (by decide) ?_
            refine aw_goto 156 dX9_moves_152 rfl ?_
            refine aw_istore (ls' := [_, _, _, _, _]) dX9_moves_156 (by decide) rfl ?_
            refine aw_iload_n dX9_moves_158 rfl ?_
            refine aw_iload dX9_moves_159 rfl ?_
            refine aw_if_eq 168 dX9_moves_161 rfl (fun c161 => ?_) (fun c161 => ?_)
            · refine aw_iconst dX9_moves_168 (by decide) (by decide) ?_
              refine aw_iload_n dX9_moves_169 rfl ?_
              refine aw_ishlw dX9_moves_170 ?_
              refine aw_iorw dX9_moves_171 ?_
              refine aw_istore_n (ls' := [_, _, _, _, _]) dX9_moves_172 (by decide) rfl ?_
              refine aw_iinc (ls' := [_, _, _, _, _]) dX9_moves_173 (by decide) rfl (by omega) (by omega) rfl ?_
              refine aw_goto 76 dX9_moves_176 rfl ?_
              first | (exfalso; omega) | exact y0 _ (Prod.ext (by omega) (Prod.ext (by omega) (by omega))) | exact y1 _ (fun w => by first | exact c102 (by rw [w]) | exact c125 (by rw [w]) | exact c148 (by rw [w]))
            · refine aw_iconst dX9_moves_164 (by decide) (by decide) ?_
              refine aw_goto 171 dX9_moves_165 rfl ?_
              refine aw_iorw dX9_moves_171 ?_
              refine aw_istore_n (ls' := [_, _, _, _, _]) dX9_moves_172 (by decide) rfl ?_
              refine aw_iinc (ls' := [_, _, _, _, _]) dX9_moves_173 (by decide) rfl (by omega) (by omega) rfl ?_
              refine aw_goto 76 dX9_moves_176 rfl ?_
              first | (exfalso; omega) | exact y0 _ (Prod.ext (by omega) (Prod.ext (by omega) (by omega))) | exact y1 _ (fun w => by first | exact c102 (by rw [w]) | exact c125 (by rw [w]) | exact c148 (by rw [w]))
theorem c_X9_moves {i : Int} (hM : MS h σ) (hW : WFst σ) : Sem M_X9_moves [vR 373, vI i] (TT e q n L) h 0 0 (PM (sp_moves σ i) h (TT e q n L)) := by
  unfold sp_moves
  have ev : mV h 379 0 = s_liv σ := hM.2.2.2.2.1
  have ec : h 379 3 = s_liv σ 0 0 := mA_c ev
  have ws := wf_sh hW.2.2.2.1
  have k1 : 0 ≤ i ∧ i ≤ h 379 3 - 1 → h 379 (5 + 4 * i) = s_liv σ 1 i := fun z => mA1 ev (by omega) (by omega)
  have tl : ∀ h1 : Mem, s_liv σ 0 0 ≠ 0 → (∀ c, c ≠ 385 → h1 c = h c) → Dn (s_liv σ) (xx (-1000000) 0) h1 (s_liv σ 0 0).toNat → AW M_X9_moves 0 0 (PM (bset (movP (s_liv σ) i) (s_liv σ 0 0).toNat, σ) h (TT e q n L)) 38 [some (vR 373), some (vI i), some (vI 0), none, none] [] (TT e q n L) h1 0 0 := by
    intro h1 hn f1 f2
    have hL := wf_liv hW.2.2.2.1 hn
    refine l_mvA (h := h1) (fun h2 g1 g2 => ?_) 36 0 h1 (by omega) (fun _ _ => rfl) (fun j j0 j1 => absurd j1 (by omega))
    have ev2 : mV h2 379 0 = s_liv σ := by rw [mV_fr (g1 379 (by decide)), mV_fr (f1 379 (by decide))]; exact ev
    refine aw_aload_n dX9_moves_62 rfl ?_
    refine aw_aload_n dX9_moves_63 rfl ?_
    refine aw_getR1 dX9_moves_64 fx_RX9_25 (by first | rfl | assumption) (by first | rfl | assumption) ?_
    refine aw_iload_n dX9_moves_67 rfl ?_
    refine aw_iconst dX9_moves_68 (by decide) (by decide) ?_
    refine aw_v3q dX9_moves_69 vl_RX9_162 (by first | rfl | assumption) (Nat.le_of_ble_eq_true rfl) (Nat.le_of_ble_eq_true rfl) (Nat.le_of_ble_eq_true rfl) (Nat.le_refl _) (Nat.le_refl _) (c_X9_setsOut (a := 379) rfl (by decide) ev2 hL.1 (by decide)) ?_
    intro v t' h3 hq
    obtain ⟨rfl, rfl, f3, f4⟩ := hq
    have fs : SM h h3 := sm_of (fun c _ _ _ c4 c5 _ => by rw [f3 c c4, g1 c c5, f1 c c4])
    have ev3 : mV h3 379 0 = s_liv σ := by rw [mV_fr (f3 379 (by decide))]; exact ev2
    refine aw_iconst dX9_moves_72 (by decide) (by decide) ?_
    refine aw_istore_n (ls' := [_, _, _, _, _]) dX9_moves_73 (by decide) rfl ?_
    refine aw_iconst dX9_moves_74 (by decide) (by decide) ?_
    refine aw_istore_n (ls' := [_, _, _, _, _]) dX9_moves_75 (by decide) rfl ?_
    refine aw_less (by repeat' (first | exact trivial | exact rfl | apply And.intro)) (l_mvB (h := h3) (N := (s_liv σ 0 0).toNat) ev3 (by omega) (by omega) (fun j hj => ?_) (fun j hj => f4 j hj) (pm_sm hM fs) (s_liv σ 0 0).toNat 0 none (by omega))
    have d := f2 j hj
    rw [xx_zz (by omega)] at d
    rw [f3 386 (by decide), g2 _ (by omega) (by omega), g2 _ (by omega) (by omega), g2 _ (by omega) (by omega)]
    exact d
  refine sem_intro (by decide) rfl (Nat.le_of_ble_eq_true rfl) rfl ?_
  refine aw_aload_n dX9_moves_0 rfl ?_
  refine aw_iload_n dX9_moves_1 rfl ?_
  refine aw_v1i dX9_moves_2 vl_RX9_202 (by first | rfl | assumption) (Nat.le_of_ble_eq_true rfl) (Nat.le_of_ble_eq_true rfl) (Nat.le_of_ble_eq_true rfl) (Nat.le_refl _) (Nat.le_refl _) (c_X9_isItem (by omega) (by omega)) ?_
  refine aw_ifB_eq 22 dX9_moves_5 rfl (fun c5 => ?_) (fun c5 => ?_)
  · refine aw_ldc (n := -1000001) dX9_moves_22 kc_RX9_70 (by decide) ?_
    refine aw_ireturn dX9_moves_24 rfl (Nat.le_refl _) (Nat.le_refl _) ?_
    rw [if_pos (by omega)]
    exact ⟨rfl, rfl, hM, fun _ _ => rfl⟩
  · refine aw_aload_n dX9_moves_8 rfl ?_
    refine aw_getR1 dX9_moves_9 fx_RX9_25 (by first | rfl | assumption) (by first | rfl | assumption) ?_
    refine aw_iconst dX9_moves_12 (by decide) (by decide) ?_
    refine aw_iconst dX9_moves_13 (by decide) (by decide) ?_
    refine aw_iload_n dX9_moves_14 rfl ?_
    refine aw_imul dX9_moves_15 (by omega) (by omega) ?_
    refine aw_iadd dX9_moves_16 (by omega) (by omega) ?_
    refine aw_iaload dX9_moves_17 (by first | rfl | assumption) (by omega) (by omega) ?_
    have kk1 := k1 c5
    rw [kk1]
    refine aw_iconst dX9_moves_18 (by decide) (by decide) ?_
    refine aw_icmp_ne 25 dX9_moves_19 rfl (fun c19 => ?_) (fun c19 => ?_)
    · have hL := wf_liv hW.2.2.2.1 (by omega)
      rw [if_neg (by omega)]
      refine aw_aload_n dX9_moves_25 rfl ?_
      refine aw_aload_n dX9_moves_26 rfl ?_
      refine aw_getR1 dX9_moves_27 fx_RX9_25 (by first | rfl | assumption) (by first | rfl | assumption) ?_
      refine aw_ldc (n := -1000000) dX9_moves_30 kc_RX9_56 (by decide) ?_
      refine aw_iconst dX9_moves_32 (by decide) (by decide) ?_
      refine aw_v3q dX9_moves_33 vl_RX9_162 (by first | rfl | assumption) (Nat.le_of_ble_eq_true rfl) (Nat.le_of_ble_eq_true rfl) (Nat.le_of_ble_eq_true rfl) (Nat.le_refl _) (Nat.le_refl _) (c_X9_setsOut (a := 379) rfl (by decide) ev hL.1 (by decide)) ?_
      intro v t' h1 hq
      obtain ⟨rfl, rfl, f1, f2⟩ := hq
      refine aw_iconst dX9_moves_36 (by decide) (by decide) ?_
      refine aw_istore_n (ls' := [_, _, _, _, _]) dX9_moves_37 (by decide) rfl ?_
      exact tl h1 (by omega) f1 f2
    · refine aw_ldc (n := -1000001) dX9_moves_22 kc_RX9_70 (by decide) ?_
      refine aw_ireturn dX9_moves_24 rfl (Nat.le_refl _) (Nat.le_refl _) ?_
      rw [if_pos (by omega)]
      exact ⟨rfl, rfl, hM, fun _ _ => rfl⟩
/-- nothing but the tried sheet and what is counted -/
def FT (h h' : Mem) : Prop := (∀ c, c ≠ 381 → c ≠ 373 → c ≠ 385 → c ≠ 387 → h' c = h c) ∧ ∀ k : Int, k < 23 ∨ 25 < k → h' 373 k = h 373 k
theorem FT.sm {h h' : Mem} (f : FT h h') : SM h h' := sm_FM (a := 381) (Or.inr rfl) f
theorem FT.tr {h h1 h2 : Mem} (x : FT h h1) (y : FT h1 h2) : FT h h2 := ⟨fun c c1 c2 c3 c4 => (y.1 c c1 c2 c3 c4).trans (x.1 c c1 c2 c3 c4), fun k hk => (y.2 k hk).trans (x.2 k hk)⟩
theorem c_X9_lastBy {p x : Int} {W : VW} (ev : mV h 379 0 = V) (v2 : V 0 0 ≤ 12) (p0 : 0 ≤ p) (p1 : p < 53) (hW : ∀ h1 : Mem, mV h1 381 0 = V → mV (am_up h1 381 p x) 381 0 = W) (wW : WFv W) (r0 : 0 ≤ W 0 4) (r1 : W 0 4 ≤ 9999) : Sem M_X9_lastBy [vR 373, vI p, vI x] (TT e q n L) h 0 0 (fun v t' h' => v = some (vI (lastG (settles false (bgn W)).1)) ∧ t' = TT e q n L ∧ h' 373 24 = (settles false (bgn W)).2.2.1 ∧ FT h h') := by
  have wB := bgn_wf wW
  have w2 := wW.2.1
  have w1 := wW.1
  have hok := settles_ok (stop := false) wB
  have b4 : bgn W 0 4 = W 0 4 := bgn_0 (by decide) (by decide)
  have b0 : bgn W 0 0 = W 0 0 := bgn_0 (by decide) (by decide)
  have a00 : addR (settles false (bgn W)).1 (settles false (bgn W)).2.1 0 0 = W 0 0 := by rw [addR_0, hok.2.2.2.2.2, b0]
  refine sem_intro (by decide) rfl (Nat.le_of_ble_eq_true rfl) rfl ?_
  refine aw_aload_n dX9_lastBy_0 rfl ?_
  refine aw_getR1 dX9_lastBy_1 fx_RX9_25 (by first | rfl | assumption) (by first | rfl | assumption) ?_
  refine aw_iconst dX9_lastBy_4 (by decide) (by decide) ?_
  refine aw_aload_n dX9_lastBy_5 rfl ?_
  refine aw_getR1 dX9_lastBy_6 fx_RX9_31 (by first | rfl | assumption) (by first | rfl | assumption) ?_
  refine aw_iconst dX9_lastBy_9 (by decide) (by decide) ?_
  refine aw_s4q dX9_lastBy_10 sl_RX9_145 (Nat.le_of_ble_eq_true rfl) (Nat.le_of_ble_eq_true rfl) (Nat.le_of_ble_eq_true rfl) (Nat.le_refl _) (Nat.le_refl _) (c_X9_copies (Nx := 53) (Ny := 53) rfl rfl (by decide) (by omega) (by omega) (by omega) (by omega) (by decide) (by decide) (by decide)) ?_
  intro v t' h1 hq
  obtain ⟨rfl, rfl, k1, k2, k3⟩ := hq
  have ev1 := hW h1 (ev_copy ev v2 k1)
  refine aw_aload_n dX9_lastBy_13 rfl ?_
  refine aw_getR1 dX9_lastBy_14 fx_RX9_31 (by first | rfl | assumption) (by first | rfl | assumption) ?_
  refine aw_iload_n dX9_lastBy_17 rfl ?_
  refine aw_iload_n dX9_lastBy_18 rfl ?_
  refine aw_iastore dX9_lastBy_19 (by first | rfl | assumption) (by omega) (by omega) (by omega) ?_
  obtain ⟨h2, hh2⟩ : ∃ h2, h2 = am_up h1 381 p x := ⟨_, rfl⟩
  rw [← hh2] at ev1 ⊢
  have g2 : ∀ c, c ≠ 381 → h2 c = h c := fun c hc => by rw [hh2, am_up_ne hc, k3 c hc]
  refine aw_aload_n dX9_lastBy_20 rfl ?_
  refine aw_getR1 dX9_lastBy_21 fx_RX9_31 (by first | rfl | assumption) (by first | rfl | assumption) ?_
  refine aw_s1q dX9_lastBy_24 sl_RX9_215 (Nat.le_of_ble_eq_true rfl) (Nat.le_of_ble_eq_true rfl) (Nat.le_of_ble_eq_true rfl) (Nat.le_refl _) (Nat.le_refl _) (c_X9_begins (a := 381) rfl (by decide) ev1 (by omega) (by omega)) ?_
  intro v t' h3 hq
  obtain ⟨rfl, rfl, g3, g4⟩ := hq
  refine aw_aload_n dX9_lastBy_27 rfl ?_
  refine aw_aload_n dX9_lastBy_28 rfl ?_
  refine aw_getR1 dX9_lastBy_29 fx_RX9_31 (by first | rfl | assumption) (by first | rfl | assumption) ?_
  refine aw_v1q dX9_lastBy_32 vl_RX9_198 (by first | rfl | assumption) (Nat.le_of_ble_eq_true rfl) (Nat.le_of_ble_eq_true rfl) (Nat.le_of_ble_eq_true rfl) (Nat.le_refl _) (Nat.le_refl _) (c_X9_settles (a := 381) rfl (Or.inr (Or.inr rfl)) g3 wB (by omega) (by omega)) ?_
  intro v t' h4 hq
  obtain ⟨rfl, rfl, s1, s2, s3, s4, s5⟩ := hq
  refine aw_aload_n dX9_lastBy_35 rfl ?_
  refine aw_getR1 dX9_lastBy_36 fx_RX9_31 (by first | rfl | assumption) (by first | rfl | assumption) ?_
  refine aw_s1i dX9_lastBy_39 sl_RX9_222 (Nat.le_of_ble_eq_true rfl) (Nat.le_of_ble_eq_true rfl) (Nat.le_of_ble_eq_true rfl) (Nat.le_refl _) (Nat.le_refl _) (c_X9_last (a := 381) rfl s1 (by omega) (by omega)) ?_
  refine aw_ireturn dX9_lastBy_42 rfl (Nat.le_refl _) (Nat.le_refl _) ?_
  refine ⟨am_ri ?_, rfl, s3, fun c c1 c2 c3 c4 => by rw [s5.1 c c1 c2 c3 c4, g4 c c1, g2 c c1], fun k hk => by rw [s5.2 k hk, g4 373 (by decide), g2 373 (by decide)]⟩
  unfold lastG
  rw [a00, addR_j (j := 3) (by decide), hok.2.2.2.2.2, b0]
theorem l_room {Q : Option AV → Tp → Mem → Prop} {i now : Int} (ev : mV h 379 0 = V) (hV : WFv V) (r0 : 0 ≤ V 0 4) (r1 : V 0 4 ≤ 9999) (i0 : 0 ≤ i) (i1 : i < V 0 0) (hk4 : V 1 i = 4) (hn : V 2 i = now) (n0 : 1 ≤ now) (n1 : now ≤ 20) (hk : ∀ hh, FT h hh → Q (some (vI (widS V i now (lastW V i now) (20 - now).toNat))) (TT e q n L) hh) :
    ∀ (m : Nat) (x : Int) (hh : Mem), x = now + m → x ≤ 20 → FT h hh → widS V i now (lastW V i now) (20 - now).toNat = widS V i now (lastW V i now) m →
      AW M_X9_room 0 0 Q 49 [some (vR 373), some (vI i), some (vI (5 + 4 * i + 1)), some (vI (lastW V i now)), some (vI x)] [] (TT e q n L) hh 0 0 := by
  have v2 := hV.2.1
  intro m
  induction m with
  | zero =>
    intro x hh hx hx2 hf hw
    have z := hk hh hf
    rw [hw] at z
    have e2 : hh 379 (5 + 4 * i + 1) = now := by rw [hf.1 379 (by decide) (by decide) (by decide) (by decide), mA2 ev i0 i1, hn]
    have ex : x = now := by omega
    subst ex
    refine aw_iload dX9_room_49 rfl ?_
    refine aw_aload_n dX9_room_51 rfl ?_
    refine aw_getR1 dX9_room_52 fx_RX9_25 (by first | rfl | assumption) (by first | rfl | assumption) ?_
    refine aw_iload_n dX9_room_55 rfl ?_
    refine aw_iaload dX9_room_56 (by first | rfl | assumption) (by omega) (by omega) ?_
    rw [e2]
    refine aw_icmp_le 77 dX9_room_57 rfl (fun c57 => ?_) (fun c57 => ?_)
    · refine aw_iload dX9_room_77 rfl ?_
      refine aw_ireturn dX9_room_79 rfl (Nat.le_refl _) (Nat.le_refl _) ?_
      exact z
    · exfalso; omega
  | succ m ih =>
    intro x hh hx hx2 hf hw
    have ev2 : mV hh 379 0 = V := by rw [mV_fr (hf.1 379 (by decide) (by decide) (by decide) (by decide))]; exact ev
    have e2 : hh 379 (5 + 4 * i + 1) = now := by rw [mA2 ev2 i0 i1, hn]
    have ew : widS V i now (lastW V i now) (m + 1) = if lastW V i x = lastW V i now then x else widS V i now (lastW V i now) m := by rw [hx]; rfl
    have wW : WFv (setV V 2 i x) := setV2_wf hV (fun z => by omega) (fun _ => ⟨by omega, hx2⟩)
    refine aw_iload dX9_room_49 rfl ?_
    refine aw_aload_n dX9_room_51 rfl ?_
    refine aw_getR1 dX9_room_52 fx_RX9_25 (by first | rfl | assumption) (by first | rfl | assumption) ?_
    refine aw_iload_n dX9_room_55 rfl ?_
    refine aw_iaload dX9_room_56 (by first | rfl | assumption) (by omega) (by omega) ?_
    rw [e2]
    refine aw_icmp_le 77 dX9_room_57 rfl (fun c57 => ?_) (fun c57 => ?_)
    · exfalso; omega
    · refine aw_aload_n dX9_room_60 rfl ?_
      refine aw_iload_n dX9_room_61 rfl ?_
      refine aw_iload dX9_room_62 rfl ?_
      refine aw_v2q dX9_room_64 vl_RX9_225 (by first | rfl | assumption) (Nat.le_of_ble_eq_true rfl) (Nat.le_of_ble_eq_true rfl) (Nat.le_of_ble_eq_true rfl) (Nat.le_refl _) (Nat.le_refl _) (c_X9_lastBy (W := setV V 2 i x) ev2 v2 (by omega) (by omega) (fun h1 g1 => mV_set (j0 := 2) g1 (by decide) i0 i1 rfl) wW (by rw [setV_ne (by omega)]; exact r0) (by rw [setV_ne (by omega)]; exact r1)) ?_
      intro v t' h3 hq
      obtain ⟨rfl, rfl, -, f3⟩ := hq
      rw [show lastG (settles false (bgn (setV V 2 i x))).1 = lastW V i x from rfl]
      refine aw_iload_n dX9_room_67 rfl ?_
      refine aw_icmp_eq 77 dX9_room_68 rfl (fun c68 => ?_) (fun c68 => ?_)
      · refine aw_iload dX9_room_77 rfl ?_
        refine aw_ireturn dX9_room_79 rfl (Nat.le_refl _) (Nat.le_refl _) ?_
        have z := hk h3 (hf.tr f3)
        rw [hw, ew, if_pos c68] at z
        exact z
      · refine aw_iinc (ls' := [_, _, _, _, _]) dX9_room_71 (by decide) rfl (by omega) (by omega) rfl ?_
        refine aw_goto 49 dX9_room_74 rfl ?_
        exact ih _ h3 (by omega) (by omega) (hf.tr f3) (by rw [hw, ew, if_neg c68])
theorem c_X9_room {i : Int} (hM : MS h σ) (hW : WFst σ) : Sem M_X9_room [vR 373, vI i] (TT e q n L) h 0 0 (PM (sp_room σ i) h (TT e q n L)) := by
  unfold sp_room
  have ev : mV h 379 0 = s_liv σ := hM.2.2.2.2.1
  have ec : h 379 3 = s_liv σ 0 0 := mA_c ev
  have ws := wf_sh hW.2.2.2.1
  have k1 : 0 ≤ i ∧ i ≤ h 379 3 - 1 → h 379 (5 + 4 * i) = s_liv σ 1 i ∧ h 379 (5 + 4 * i + 1) = s_liv σ 2 i := fun z => ⟨mA1 ev (by omega) (by omega), mA2 ev (by omega) (by omega)⟩
  refine sem_intro (by decide) rfl (Nat.le_of_ble_eq_true rfl) rfl ?_
  refine aw_aload_n dX9_room_0 rfl ?_
  refine aw_iload_n dX9_room_1 rfl ?_
  refine aw_v1i dX9_room_2 vl_RX9_202 (by first | rfl | assumption) (Nat.le_of_ble_eq_true rfl) (Nat.le_of_ble_eq_true rfl) (Nat.le_of_ble_eq_true rfl) (Nat.le_refl _) (Nat.le_refl _) (c_X9_isItem (by omega) (by omega)) ?_
  refine aw_ifB_eq 22 dX9_room_5 rfl (fun c5 => ?_) (fun c5 => ?_)
  · refine aw_ldc (n := -1000001) dX9_room_22 kc_RX9_70 (by decide) ?_
    refine aw_ireturn dX9_room_24 rfl (Nat.le_refl _) (Nat.le_refl _) ?_
    rw [if_pos (by omega)]
    exact ⟨rfl, rfl, hM, fun _ _ => rfl⟩
  · refine aw_aload_n dX9_room_8 rfl ?_
    refine aw_getR1 dX9_room_9 fx_RX9_25 (by first | rfl | assumption) (by first | rfl | assumption) ?_
    refine aw_iconst dX9_room_12 (by decide) (by decide) ?_
    refine aw_iconst dX9_room_13 (by decide) (by decide) ?_
    refine aw_iload_n dX9_room_14 rfl ?_
    refine aw_imul dX9_room_15 (by omega) (by omega) ?_
    refine aw_iadd dX9_room_16 (by omega) (by omega) ?_
    refine aw_iaload dX9_room_17 (by first | rfl | assumption) (by omega) (by omega) ?_
    obtain ⟨kk1, kk2⟩ := k1 c5
    rw [kk1]
    refine aw_iconst dX9_room_18 (by decide) (by decide) ?_
    refine aw_icmp_eq 25 dX9_room_19 rfl (fun c19 => ?_) (fun c19 => ?_)
    · have hL := wf_liv hW.2.2.2.1 (by omega)
      have wi := (hL.1.2.2.2.2.2.2.2.2 i (by omega) (by omega)).2.2.2.1 (by omega)
      rw [if_neg (by omega)]
      refine aw_iconst dX9_room_25 (by decide) (by decide) ?_
      refine aw_iconst dX9_room_26 (by decide) (by decide) ?_
      refine aw_iload_n dX9_room_27 rfl ?_
      refine aw_imul dX9_room_28 (by omega) (by omega) ?_
      refine aw_iadd dX9_room_29 (by omega) (by omega) ?_
      refine aw_iconst dX9_room_30 (by decide) (by decide) ?_
      refine aw_iadd dX9_room_31 (by omega) (by omega) ?_
      refine aw_istore_n (ls' := [_, _, _, _, _]) dX9_room_32 (by decide) rfl ?_
      refine aw_aload_n dX9_room_33 rfl ?_
      refine aw_iload_n dX9_room_34 rfl ?_
      refine aw_aload_n dX9_room_35 rfl ?_
      refine aw_getR1 dX9_room_36 fx_RX9_25 (by first | rfl | assumption) (by first | rfl | assumption) ?_
      refine aw_iload_n dX9_room_39 rfl ?_
      refine aw_iaload dX9_room_40 (by first | rfl | assumption) (by omega) (by omega) ?_
      rw [kk2]
      refine aw_v2q dX9_room_41 vl_RX9_225 (by first | rfl | assumption) (Nat.le_of_ble_eq_true rfl) (Nat.le_of_ble_eq_true rfl) (Nat.le_of_ble_eq_true rfl) (Nat.le_refl _) (Nat.le_refl _) (c_X9_lastBy (V := s_liv σ) (W := setV (s_liv σ) 2 i (s_liv σ 2 i)) ev (by omega) (by omega) (by omega) (fun h1 g1 => mV_set (j0 := 2) g1 (by decide) (by omega) (by omega) rfl) (by rw [setV_self]; exact hL.1) (by rw [setV_self]; exact hL.2.1) (by rw [setV_self]; exact hL.2.2.1)) ?_
      intro v t' h3 hq
      obtain ⟨rfl, rfl, -, f3⟩ := hq
      rw [show lastG (settles false (bgn (setV (s_liv σ) 2 i (s_liv σ 2 i)))).1 = lastW (s_liv σ) i (s_liv σ 2 i) from rfl]
      refine aw_istore_n (ls' := [_, _, _, _, _]) dX9_room_44 (by decide) rfl ?_
      refine aw_bipush dX9_room_45 (by decide) (by decide) ?_
      refine aw_istore (ls' := [_, _, _, _, _]) dX9_room_47 (by decide) rfl ?_
      exact l_room (h := h) ev hL.1 hL.2.1 hL.2.2.1 (by omega) (by omega) (by omega) rfl wi.1 wi.2 (fun hh f => pm_sm hM f.sm) (20 - s_liv σ 2 i).toNat 20 h3 (by omega) (by omega) f3 rfl
    · refine aw_ldc (n := -1000001) dX9_room_22 kc_RX9_70 (by decide) ?_
      refine aw_ireturn dX9_room_24 rfl (Nat.le_refl _) (Nat.le_refl _) ?_
      rw [if_pos (by omega)]
      exact ⟨rfl, rfl, hM, fun _ _ => rfl⟩
theorem l_restM {Q : Option AV → Tp → Mem → Prop} (ev : mV h 379 0 = V) (hV : WFv V) (r0 : 0 ≤ V 0 4) (r1 : V 0 4 ≤ 9999) (hk : ∀ hh, FT h hh → Q (some (vI (resS V 87 1))) (TT e q n L) hh) :
    ∀ (m : Nat) (f : Int) (hh : Mem), f + m = 88 → 1 ≤ f → FT h hh → resS V 87 1 = resS V m f → AW M_X9_restless 0 0 Q 12 [some (vR 373), some (vI f)] [] (TT e q n L) hh 0 0 := by
  have v2 := hV.2.1
  intro m
  induction m with
  | zero =>
    intro f hh hf1 hf2 hf hw
    have z := hk hh hf
    rw [hw] at z
    refine aw_iload_n dX9_restless_12 rfl ?_
    refine aw_bipush dX9_restless_13 (by decide) (by decide) ?_
    refine aw_icmp_ge 40 dX9_restless_15 rfl (fun c15 => ?_) (fun c15 => ?_)
    · refine aw_ldc (n := -1000000) dX9_restless_40 kc_RX9_56 (by decide) ?_
      refine aw_ireturn dX9_restless_42 rfl (Nat.le_refl _) (Nat.le_refl _) ?_
      exact z
    · exfalso; omega
  | succ m ih =>
    intro f hh hf1 hf2 hf hw
    have ev2 : mV hh 379 0 = V := by rw [mV_fr (hf.1 379 (by decide) (by decide) (by decide) (by decide))]; exact ev
    have wW : WFv (setV V 0 3 f) := setV0_wf hV hf2 (by omega)
    have ew : resS V (m + 1) f = if 0 < (settles true (bgn (setV V 0 3 f))).2.2.1 then f else resS V m (f + 1) := rfl
    refine aw_iload_n dX9_restless_12 rfl ?_
    refine aw_bipush dX9_restless_13 (by decide) (by decide) ?_
    refine aw_icmp_ge 40 dX9_restless_15 rfl (fun c15 => ?_) (fun c15 => ?_)
    · exfalso; omega
    · refine aw_aload_n dX9_restless_18 rfl ?_
      refine aw_iconst dX9_restless_19 (by decide) (by decide) ?_
      refine aw_iload_n dX9_restless_20 rfl ?_
      refine aw_v2q dX9_restless_21 vl_RX9_225 (by first | rfl | assumption) (Nat.le_of_ble_eq_true rfl) (Nat.le_of_ble_eq_true rfl) (Nat.le_of_ble_eq_true rfl) (Nat.le_refl _) (Nat.le_refl _) (c_X9_lastBy (W := setV V 0 3 f) ev2 v2 (by omega) (by omega) (fun h1 g1 => mV_setS (w := 2) g1 (by decide) (by decide)) wW (by rw [setV_ne (by omega)]; exact r0) (by rw [setV_ne (by omega)]; exact r1)) ?_
      intro v t' h3 hq
      obtain ⟨rfl, rfl, f4, f3⟩ := hq
      refine aw_pop dX9_restless_24 rfl ?_
      refine aw_aload_n dX9_restless_25 rfl ?_
      refine aw_getI dX9_restless_26 fx_RX9_169 (by first | rfl | assumption) ?_
      rw [f4]
      refine aw_if_le 34 dX9_restless_29 rfl (fun c29 => ?_) (fun c29 => ?_)
      · refine aw_iinc (ls' := [_, _]) dX9_restless_34 (by decide) rfl (by omega) (by omega) rfl ?_
        refine aw_goto 12 dX9_restless_37 rfl ?_
        exact ih _ h3 (by omega) (by omega) (hf.tr f3) (by rw [hw, ew, if_neg (fun y => by have := rest_tf.mp y; omega)])
      · refine aw_iload_n dX9_restless_32 rfl ?_
        refine aw_ireturn dX9_restless_33 rfl (Nat.le_refl _) (Nat.le_refl _) ?_
        have z := hk h3 (hf.tr f3)
        rw [hw, ew, if_pos (rest_tf.mpr (by omega))] at z
        exact z
theorem c_X9_restless (hM : MS h σ) (hW : WFst σ) : Sem M_X9_restless [vR 373] (TT e q n L) h 0 0 (PM (sp_restless σ) h (TT e q n L)) := by
  unfold sp_restless
  have ev : mV h 379 0 = s_liv σ := hM.2.2.2.2.1
  have e0 : h 379 0 = s_liv σ 0 1 := mA_w ev
  have ws := wf_sh hW.2.2.2.1
  refine sem_intro (by decide) rfl (Nat.le_of_ble_eq_true rfl) rfl ?_
  refine aw_aload_n dX9_restless_0 rfl ?_
  refine aw_v0i dX9_restless_1 vl_RX9_191 (by first | rfl | assumption) (Nat.le_of_ble_eq_true rfl) (Nat.le_of_ble_eq_true rfl) (Nat.le_of_ble_eq_true rfl) (Nat.le_refl _) (Nat.le_refl _) (c_X9_isSheet) ?_
  refine aw_ifB_ne 10 dX9_restless_4 rfl (fun c4 => ?_) (fun c4 => ?_)
  · refine aw_iconst dX9_restless_10 (by decide) (by decide) ?_
    refine aw_istore_n (ls' := [_, _]) dX9_restless_11 (by decide) rfl ?_
    have hL := wf_liv hW.2.2.2.1 (by omega)
    rw [if_neg (by omega)]
    exact l_restM (h := h) ev hL.1 hL.2.1 hL.2.2.1 (fun hh f => pm_sm hM f.sm) 87 1 h (by omega) (by omega) ⟨fun _ _ _ _ _ => rfl, fun _ _ => rfl⟩ rfl
  · refine aw_ldc (n := -1000002) dX9_restless_7 kc_RX9_194 (by decide) ?_
    refine aw_ireturn dX9_restless_9 rfl (Nat.le_refl _) (Nat.le_refl _) ?_
    rw [if_pos (by omega)]
    exact ⟨rfl, rfl, hM, fun _ _ => rfl⟩
end MOO
