/-! the reference: edits by draws -/
section MOR
variable {e q n L : Nat} {h : Mem} {σ : ST} {V : VW}
theorem setV_addR {A : VW} {j0 : Nat} {i x r : Int} (hj : j0 ≠ 0) : setV (addR A r) j0 i x = addR (setV A j0 i x) r := by
  funext j k
  unfold setV addR
  by_cases y : j = 0 ∧ k = 4
  · rw [if_neg (by omega), if_pos y, if_pos y]
    show A 0 4 + r = (if 0 = j0 ∧ 4 = i then x else A 0 4) + r
    rw [if_neg (by omega)]
  · rw [if_neg y, if_neg y]
set_option maxHeartbeats 4000000 in
theorem l_drawM {Q : Option AV → Tp → Mem → Prop} {s w : Int} {N : Nat} (ev : mV h 379 0 = V) (hV : WFv V) (r0 : 0 ≤ V 0 4) (r1 : V 0 4 ≤ 9999) (s0 : 1 ≤ s) (s1 : s ≤ 999999) (hN : N ≤ 60) (hk : ∀ hh : Mem, F81 h hh → mV hh 381 0 = addR (edN V s N).1 N → AW M_X9_drawn 0 0 Q 190 [some (vR 373), some (vI N), some (vI s), some (vI w), none, none, some (vI (edN V s N).2.2), none, none] [] (TT e q n L) hh 0 0) :
    ∀ (m k : Nat) (hh : Mem) (y : Option AV), k + m = N → F81 h hh → mV hh 381 0 = addR (edN V s k).1 k → AW M_X9_drawn 0 0 Q 65 [some (vR 373), some (vI N), some (vI s), some (vI w), some (vL (edN V s k).2.1), none, some (vI (edN V s k).2.2), some (vI k), y] [] (TT e q n L) hh 0 0 := by
  have v1 := hV.1
  have v2 := hV.2.1
  intro m
  induction m with
  | zero =>
    intro k hh y hi hf hc
    have ek : k = N := by omega
    subst ek
    refine aw_iload dX9_drawn_65 rfl ?_
    refine aw_iload_n dX9_drawn_67 rfl ?_
    refine aw_icmp_ge 190 dX9_drawn_68 rfl (fun c68 => ?_) (fun c68 => ?_)
    · exact aw_less (by repeat' (first | exact trivial | exact rfl | apply And.intro)) (hk hh hf hc)
    · exfalso; omega
  | succ m ih =>
    intro k hh y hi hf hc
    obtain ⟨a1, a2, a3, a4, a5, a6⟩ := edN_ok hV (x := s) (by omega) (by omega) k
    have b3 : 0 ≤ edX (edN V s k).2.1 := Int.emod_nonneg _ (by omega)
    have b4 : edX (edN V s k).2.1 < 2147483647 := Int.emod_lt_of_pos _ (by omega)
    have e0 : hh 379 3 = V 0 0 := by rw [hf 379 (by decide) (by decide)]; exact mA_c ev
    have es : edN V s (k + 1) = (rnd (edV (edN V s k).1 (edX (edN V s k).2.1)), edX (edN V s k).2.1, (edN V s k).2.2 + (if 0 < chg (edV (edN V s k).1 (edX (edN V s k).2.1)) (V 0 0).toNat then 1 else 0)) := rfl
    have z := ih (k + 1)
    rw [es] at z
    have eX : (edN V s k).2.1 * 16807 % 2147483647 = edX (edN V s k).2.1 := rfl
    generalize edX (edN V s k).2.1 = X at b3 b4 z eX
    generalize (edN V s k).2.1 = x0 at a3 a4 z eX
    generalize (edN V s k).2.2 = cc at a5 a6 z
    generalize (edN V s k).1 = V1 at a1 a2 hc z
    have m0 : 0 ≤ X % V 0 0 := Int.emod_nonneg _ (by omega)
    have m1 : X % V 0 0 < V 0 0 := Int.emod_lt_of_pos _ (by omega)
    have mi : X % V 0 0 < addR V1 k 0 0 := by rw [addR_0, a2]; exact m1
    have k1 : hh 381 (5 + 4 * (X % V 0 0)) = V1 1 (X % V 0 0) := by rw [mA1 hc m0 mi, addRj (by decide)]
    have wi := a1.2.2.2.2.2.2.2.2 (X % V 0 0) m0 (by rw [a2]; exact m1)
    have tl : ∀ (h2 : Mem) (y2 : Option AV), F81 h h2 → mV h2 381 0 = addR (edV V1 X) k → AW M_X9_drawn 0 0 Q 163 [some (vR 373), some (vI N), some (vI s), some (vI w), some (vL X), none, some (vI cc), some (vI k), y2] [] (TT e q n L) h2 0 0 := by
      intro h2 y2 hs hc2
      have er : addR (edV V1 X) k 0 4 = V 0 4 + k := by rw [addR_4, edV_0, a2]
      refine aw_iload dX9_drawn_163 rfl ?_
      refine aw_aload_n dX9_drawn_165 rfl ?_
      refine aw_aload_n dX9_drawn_166 rfl ?_
      refine aw_getR1 dX9_drawn_167 fx_RX9_31 (by first | rfl | assumption) (by first | rfl | assumption) ?_
      refine aw_v1q dX9_drawn_170 vl_RX9_182 (by first | rfl | assumption) (Nat.le_of_ble_eq_true rfl) (Nat.le_of_ble_eq_true rfl) (Nat.le_of_ble_eq_true rfl) (Nat.le_refl _) (Nat.le_refl _) (c_X9_rounds (a := 381) rfl (by decide) (by decide) hc2 (addR_wf (edV_wf a1 b3)) (by omega) (by omega)) ?_
      intro v t' h3 hq
      obtain ⟨rfl, rfl, g1, g2⟩ := hq
      rw [addR_rnd] at g1
      rw [addR_0, edV_0, a2, chg_addR]
      have z2 := z h3 y2 (by omega) (fun c c1 c2 => by rw [g2 c c1 c2]; exact hs c c1 c2) g1
      refine aw_if_le 180 dX9_drawn_173 rfl (fun c173 => ?_) (fun c173 => ?_)
      · refine aw_iconst dX9_drawn_180 (by decide) (by decide) ?_
        refine aw_iadd dX9_drawn_181 (by omega) (by omega) ?_
        refine aw_istore (ls' := [_, _, _, _, _, _, _, _, _]) dX9_drawn_182 (by decide) rfl ?_
        refine aw_iinc (ls' := [_, _, _, _, _, _, _, _, _]) dX9_drawn_184 (by decide) rfl (by omega) (by omega) rfl ?_
        refine aw_goto 65 dX9_drawn_187 rfl ?_
        first | (rw [if_pos (by omega)] at z2; exact z2) | (rw [if_neg (by omega)] at z2; simp only [Int.add_zero] at z2; rw [show ∀ a : Int, a + 0 = a from fun a => by omega]; exact z2)
      · refine aw_iconst dX9_drawn_176 (by decide) (by decide) ?_
        refine aw_goto 181 dX9_drawn_177 rfl ?_
        refine aw_iadd dX9_drawn_181 (by omega) (by omega) ?_
        refine aw_istore (ls' := [_, _, _, _, _, _, _, _, _]) dX9_drawn_182 (by decide) rfl ?_
        refine aw_iinc (ls' := [_, _, _, _, _, _, _, _, _]) dX9_drawn_184 (by decide) rfl (by omega) (by omega) rfl ?_
        refine aw_goto 65 dX9_drawn_187 rfl ?_
        first | (rw [if_pos (by omega)] at z2; exact z2) | (rw [if_neg (by omega)] at z2; simp only [Int.add_zero] at z2; rw [show ∀ a : Int, a + 0 = a from fun a => by omega]; exact z2)
    have esn : ∀ x : Int, mV (am_up hh 381 (5 + 4 * (X % V 0 0) + 1) x) 381 0 = addR (setV V1 2 (X % V 0 0) x) k := fun x => by rw [mV_set (j0 := 2) hc (by decide) m0 mi (by omega), setV_addR (by decide)]
    have sc2 : ∀ x : Int, F81 h (am_up hh 381 (5 + 4 * (X % V 0 0) + 1) x) := fun x c c1 c2 => by rw [am_up_ne c1]; exact hf c c1 c2
    have eed : edV V1 X = if V1 1 (X % V 0 0) = 4 then setV V1 2 (X % V 0 0) (X % 20 + 1) else if V1 1 (X % V 0 0) ≤ 3 then setV V1 2 (X % V 0 0) (X % V 0 0) else V1 := by unfold edV; rw [a2]
    refine aw_iload dX9_drawn_65 rfl ?_
    refine aw_iload_n dX9_drawn_67 rfl ?_
    refine aw_icmp_ge 190 dX9_drawn_68 rfl (fun c68 => ?_) (fun c68 => ?_)
    · exfalso; omega
    · refine aw_lload dX9_drawn_71 rfl ?_
      refine aw_ldc2 (n := 16807) dX9_drawn_73 kl_RX9_242 (by decide) ?_
      refine aw_lmul dX9_drawn_76 (by omega) (by omega) ?_
      refine aw_ldc2 (n := 2147483647) dX9_drawn_77 kl_RX9_244 (by decide) ?_
      refine aw_lrem dX9_drawn_80 (by omega) (by omega) ?_
      rw [eX]
      refine aw_lstore (ls' := [_, _, _, _, _, _, _, _, _]) dX9_drawn_81 (by decide) rfl ?_
      refine aw_iconst dX9_drawn_83 (by decide) (by decide) ?_
      refine aw_iconst dX9_drawn_84 (by decide) (by decide) ?_
      refine aw_lload dX9_drawn_85 rfl ?_
      refine aw_aload_n dX9_drawn_87 rfl ?_
      refine aw_getR1 dX9_drawn_88 fx_RX9_25 (by first | rfl | assumption) (by first | rfl | assumption) ?_
      refine aw_iconst dX9_drawn_91 (by decide) (by decide) ?_
      refine aw_iaload dX9_drawn_92 (by first | rfl | assumption) (by omega) (by omega) ?_
      rw [e0]
      refine aw_i2l dX9_drawn_93 ?_
      refine aw_lrem dX9_drawn_94 (by omega) (by omega) ?_
      refine aw_l2i dX9_drawn_95 (by omega) (by omega) ?_
      refine aw_imul dX9_drawn_96 (by omega) (by omega) ?_
      refine aw_iadd dX9_drawn_97 (by omega) (by omega) ?_
      refine aw_istore (ls' := [_, _, _, _, _, _, _, _, _]) dX9_drawn_98 (by decide) rfl ?_
      refine aw_aload_n dX9_drawn_100 rfl ?_
      refine aw_getR1 dX9_drawn_101 fx_RX9_31 (by first | rfl | assumption) (by first | rfl | assumption) ?_
      refine aw_iload dX9_drawn_104 rfl ?_
      refine aw_iaload dX9_drawn_106 (by first | rfl | assumption) (by omega) (by omega) ?_
      rw [k1]
      refine aw_iconst dX9_drawn_107 (by decide) (by decide) ?_
      refine aw_icmp_ne 132 dX9_drawn_108 rfl (fun c108 => ?_) (fun c108 => ?_)
      · refine aw_aload_n dX9_drawn_132 rfl ?_
        refine aw_getR1 dX9_drawn_133 fx_RX9_31 (by first | rfl | assumption) (by first | rfl | assumption) ?_
        refine aw_iload dX9_drawn_136 rfl ?_
        refine aw_iaload dX9_drawn_138 (by first | rfl | assumption) (by omega) (by omega) ?_
        rw [k1]
        refine aw_iconst dX9_drawn_139 (by decide) (by decide) ?_
        refine aw_icmp_gt 163 dX9_drawn_140 rfl (fun c140 => ?_) (fun c140 => ?_)
        · refine tl hh _ hf ?_
          rw [eed, if_neg (by omega), if_neg (by omega)]; exact hc
        · refine aw_aload_n dX9_drawn_143 rfl ?_
          refine aw_getR1 dX9_drawn_144 fx_RX9_31 (by first | rfl | assumption) (by first | rfl | assumption) ?_
          refine aw_iload dX9_drawn_147 rfl ?_
          refine aw_iconst dX9_drawn_149 (by decide) (by decide) ?_
          refine aw_iadd dX9_drawn_150 (by omega) (by omega) ?_
          refine aw_lload dX9_drawn_151 rfl ?_
          refine aw_aload_n dX9_drawn_153 rfl ?_
          refine aw_getR1 dX9_drawn_154 fx_RX9_25 (by first | rfl | assumption) (by first | rfl | assumption) ?_
          refine aw_iconst dX9_drawn_157 (by decide) (by decide) ?_
          refine aw_iaload dX9_drawn_158 (by first | rfl | assumption) (by omega) (by omega) ?_
          rw [e0]
          refine aw_i2l dX9_drawn_159 ?_
          refine aw_lrem dX9_drawn_160 (by omega) (by omega) ?_
          refine aw_l2i dX9_drawn_161 (by omega) (by omega) ?_
          refine aw_iastore dX9_drawn_162 (by first | rfl | assumption) (by omega) (by omega) (by omega) ?_
          first | (refine tl _ _ (sc2 _) ?_; rw [esn, eed, if_pos (by omega)]; done) | (refine tl _ _ (sc2 _) ?_; rw [esn, eed, if_neg (by omega), if_pos (by omega)]; done)
      · refine aw_aload_n dX9_drawn_111 rfl ?_
        refine aw_getR1 dX9_drawn_112 fx_RX9_31 (by first | rfl | assumption) (by first | rfl | assumption) ?_
        refine aw_iload dX9_drawn_115 rfl ?_
        refine aw_iconst dX9_drawn_117 (by decide) (by decide) ?_
        refine aw_iadd dX9_drawn_118 (by omega) (by omega) ?_
        refine aw_lload dX9_drawn_119 rfl ?_
        refine aw_ldc2 (n := 20) dX9_drawn_121 kl_RX9_246 (by decide) ?_
        refine aw_lrem dX9_drawn_124 (by omega) (by omega) ?_
        refine aw_l2i dX9_drawn_125 (by omega) (by omega) ?_
        refine aw_iconst dX9_drawn_126 (by decide) (by decide) ?_
        refine aw_iadd dX9_drawn_127 (by omega) (by omega) ?_
        refine aw_iastore dX9_drawn_128 (by first | rfl | assumption) (by omega) (by omega) (by omega) ?_
        refine aw_goto 163 dX9_drawn_129 rfl ?_
        first | (refine tl _ _ (sc2 _) ?_; rw [esn, eed, if_pos (by omega)]; done) | (refine tl _ _ (sc2 _) ?_; rw [esn, eed, if_neg (by omega), if_pos (by omega)]; done)
theorem c_X9_drawn {k s w : Int} (hM : MS h σ) (hW : WFst σ) : Sem M_X9_drawn [vR 373, vI k, vI s, vI w] (TT e q n L) h 0 0 (PM (sp_drawn σ k s w) h (TT e q n L)) := by
  unfold sp_drawn
  have ev : mV h 379 0 = s_liv σ := hM.2.2.2.2.1
  have e0 : h 379 0 = s_liv σ 0 1 := mA_w ev
  have ws := wf_sh hW.2.2.2.1
  have tl : ∀ (N : Nat) (h1 : Mem), k = (N : Int) → N ≤ 60 → 1 ≤ s → s ≤ 999999 → s_liv σ 0 0 ≠ 0 → F81 h h1 → mV h1 381 0 = s_liv σ → AW M_X9_drawn 0 0 (PM (if w = 0 then (edN (s_liv σ) s N).2.2 else lastG (edN (s_liv σ) s N).1, σ) h (TT e q n L)) 65 [some (vR 373), some (vI N), some (vI s), some (vI w), some (vL s), none, some (vI 0), some (vI 0), none] [] (TT e q n L) h1 0 0 := by
    intro N h1 hN n6 s0 s1 hn hf e1
    have hL := wf_liv hW.2.2.2.1 hn
    refine l_drawM (h := h) (V := s_liv σ) (N := N) ev hL.1 hL.2.1 hL.2.2.1 s0 s1 n6 (fun hh f1 f2 => ?_) N 0 h1 none (by omega) hf (by show _ = addR (s_liv σ) 0; rw [addR_00]; exact e1)
    have ok := edN_ok hL.1 (x := s) (by omega) (by omega) N
    have a00 : addR (edN (s_liv σ) s N).1 N 0 0 = s_liv σ 0 0 := by rw [addR_0, ok.2.1]
    refine aw_iload_n dX9_drawn_190 rfl ?_
    refine aw_if_ne 199 dX9_drawn_191 rfl (fun c191 => ?_) (fun c191 => ?_)
    · refine aw_aload_n dX9_drawn_199 rfl ?_
      refine aw_getR1 dX9_drawn_200 fx_RX9_31 (by first | rfl | assumption) (by first | rfl | assumption) ?_
      refine aw_s1i dX9_drawn_203 sl_RX9_222 (Nat.le_of_ble_eq_true rfl) (Nat.le_of_ble_eq_true rfl) (Nat.le_of_ble_eq_true rfl) (Nat.le_refl _) (Nat.le_refl _) (c_X9_last (a := 381) rfl f2 (by omega) (by omega)) ?_
      refine aw_ireturn dX9_drawn_206 rfl (Nat.le_refl _) (Nat.le_refl _) ?_
      first | (rw [if_pos (by omega)]; exact pm_sm hM f1.sm) | (rw [if_neg (by omega)]; refine ⟨am_ri ?_, rfl, f1.sm.ms hM, fun c hc => f1.sm.1 c (by omega)⟩; show lastG _ = lastG _; unfold lastG; rw [addR_0, addR_j (j := 3) (by decide)])
    · refine aw_iload dX9_drawn_194 rfl ?_
      refine aw_goto 206 dX9_drawn_196 rfl ?_
      refine aw_ireturn dX9_drawn_206 rfl (Nat.le_refl _) (Nat.le_refl _) ?_
      first | (rw [if_pos (by omega)]; exact pm_sm hM f1.sm) | (rw [if_neg (by omega)]; refine ⟨am_ri ?_, rfl, f1.sm.ms hM, fun c hc => f1.sm.1 c (by omega)⟩; show lastG _ = lastG _; unfold lastG; rw [addR_0, addR_j (j := 3) (by decide)])
  refine sem_intro (by decide) rfl (Nat.le_of_ble_eq_true rfl) rfl ?_
  refine aw_aload_n dX9_drawn_0 rfl ?_
  refine aw_v0i dX9_drawn_1 vl_RX9_191 (by first | rfl | assumption) (Nat.le_of_ble_eq_true rfl) (Nat.le_of_ble_eq_true rfl) (Nat.le_of_ble_eq_true rfl) (Nat.le_refl _) (Nat.le_refl _) (c_X9_isSheet) ?_
  refine aw_ifB_ne 10 dX9_drawn_4 rfl (fun c4 => ?_) (fun c4 => ?_)
  · refine aw_iload_n dX9_drawn_10 rfl ?_
    refine aw_iconst dX9_drawn_11 (by decide) (by decide) ?_
    refine aw_bipush dX9_drawn_12 (by decide) (by decide) ?_
    refine aw_s3i dX9_drawn_14 sl_RX9_62 (Nat.le_of_ble_eq_true rfl) (Nat.le_of_ble_eq_true rfl) (Nat.le_of_ble_eq_true rfl) (Nat.le_refl _) (Nat.le_refl _) (c_X9_in) ?_
    refine aw_ifB_eq 39 dX9_drawn_17 rfl (fun c17 => ?_) (fun c17 => ?_)
    · refine aw_ldc (n := -1000001) dX9_drawn_39 kc_RX9_70 (by decide) ?_
      refine aw_ireturn dX9_drawn_41 rfl (Nat.le_refl _) (Nat.le_refl _) ?_
      rw [if_neg (by omega), if_pos (by omega)]
      exact ⟨rfl, rfl, hM, fun _ _ => rfl⟩
    · refine aw_iload_n dX9_drawn_20 rfl ?_
      refine aw_iconst dX9_drawn_21 (by decide) (by decide) ?_
      refine aw_ldc (n := 999999) dX9_drawn_22 kc_RX9_241 (by decide) ?_
      refine aw_s3i dX9_drawn_24 sl_RX9_62 (Nat.le_of_ble_eq_true rfl) (Nat.le_of_ble_eq_true rfl) (Nat.le_of_ble_eq_true rfl) (Nat.le_refl _) (Nat.le_refl _) (c_X9_in) ?_
      refine aw_ifB_eq 39 dX9_drawn_27 rfl (fun c27 => ?_) (fun c27 => ?_)
      · refine aw_ldc (n := -1000001) dX9_drawn_39 kc_RX9_70 (by decide) ?_
        refine aw_ireturn dX9_drawn_41 rfl (Nat.le_refl _) (Nat.le_refl _) ?_
        rw [if_neg (by omega), if_pos (by omega)]
        exact ⟨rfl, rfl, hM, fun _ _ => rfl⟩
      · refine aw_iload_n dX9_drawn_30 rfl ?_
        refine aw_iconst dX9_drawn_31 (by decide) (by decide) ?_
        refine aw_iconst dX9_drawn_32 (by decide) (by decide) ?_
        refine aw_s3i dX9_drawn_33 sl_RX9_62 (Nat.le_of_ble_eq_true rfl) (Nat.le_of_ble_eq_true rfl) (Nat.le_of_ble_eq_true rfl) (Nat.le_refl _) (Nat.le_refl _) (c_X9_in) ?_
        refine aw_ifB_ne 42 dX9_drawn_36 rfl (fun c36 => ?_) (fun c36 => ?_)
        · rw [if_neg (by omega), if_neg (by omega)]
          obtain ⟨N, rfl⟩ : ∃ N : Nat, k = (N : Int) := ⟨k.toNat, by omega⟩
          rw [Int.toNat_natCast]
          refine aw_aload_n dX9_drawn_42 rfl ?_
          refine aw_getR1 dX9_drawn_43 fx_RX9_25 (by first | rfl | assumption) (by first | rfl | assumption) ?_
          refine aw_iconst dX9_drawn_46 (by decide) (by decide) ?_
          refine aw_aload_n dX9_drawn_47 rfl ?_
          refine aw_getR1 dX9_drawn_48 fx_RX9_31 (by first | rfl | assumption) (by first | rfl | assumption) ?_
          refine aw_iconst dX9_drawn_51 (by decide) (by decide) ?_
          refine aw_s4q dX9_drawn_52 sl_RX9_145 (Nat.le_of_ble_eq_true rfl) (Nat.le_of_ble_eq_true rfl) (Nat.le_of_ble_eq_true rfl) (Nat.le_refl _) (Nat.le_refl _) (c_X9_copies (Nx := 53) (Ny := 53) rfl rfl (by decide) (by omega) (by omega) (by omega) (by omega) (by decide) (by decide) (by decide)) ?_
          intro v t' h1 hq
          obtain ⟨rfl, rfl, k1, k2, k3⟩ := hq
          have ev1 := ev_copy ev (by omega) k1
          refine aw_iload_n dX9_drawn_55 rfl ?_
          refine aw_i2l dX9_drawn_56 ?_
          refine aw_lstore (ls' := [_, _, _, _, _, _, _, _, _]) dX9_drawn_57 (by decide) rfl ?_
          refine aw_iconst dX9_drawn_59 (by decide) (by decide) ?_
          refine aw_istore (ls' := [_, _, _, _, _, _, _, _, _]) dX9_drawn_60 (by decide) rfl ?_
          refine aw_iconst dX9_drawn_62 (by decide) (by decide) ?_
          refine aw_istore (ls' := [_, _, _, _, _, _, _, _, _]) dX9_drawn_63 (by decide) rfl ?_
          exact aw_less (by repeat' (first | exact trivial | exact rfl | apply And.intro)) (tl N h1 rfl (by omega) (by omega) (by omega) (by omega) (fun c c1 c2 => k3 c c1) ev1)
        · refine aw_ldc (n := -1000001) dX9_drawn_39 kc_RX9_70 (by decide) ?_
          refine aw_ireturn dX9_drawn_41 rfl (Nat.le_refl _) (Nat.le_refl _) ?_
          rw [if_neg (by omega), if_pos (by omega)]
          exact ⟨rfl, rfl, hM, fun _ _ => rfl⟩
  · refine aw_ldc (n := -1000002) dX9_drawn_7 kc_RX9_194 (by decide) ?_
    refine aw_ireturn dX9_drawn_9 rfl (Nat.le_refl _) (Nat.le_refl _) ?_
    rw [if_pos (by omega)]
    exact ⟨rfl, rfl, hM, fun _ _ => rfl⟩
end MOR
