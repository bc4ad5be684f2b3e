/-! the reference: sheet() -/
section SCG
variable {e q n L : Nat} {h : Mem} {b : Int → Int} {l F0 : Int} {σ : ST}
theorem RM.up {x : Int × Int} {j v : Int} (hR : RM b l F0 h x) : RM b l F0 (am_up h 380 j v) x := by
  unfold RM TP SCN at *
  rw [am_up_ne (by decide), am_up_ne (by decide)]
  exact hR
theorem FK3.up {hh : Mem} {j v : Int} (f : FK3 h hh) : FK3 h (am_up hh 380 j v) := ⟨fun c c1 c2 => by rw [am_up_ne c2]; exact f.1 c c1 c2, fun k hk => by rw [am_up_ne (by decide)]; exact f.2 k hk⟩
set_option maxHeartbeats 4000000 in
theorem c_X9_sheet (hM : MS h σ) (hW : WFst σ) : Sem M_X9_sheet [vR 373] (TT e q n L) h 0 0 (PM (sp_sheet σ) h (TT e q n L)) := by
  obtain ⟨b, hbE⟩ : ∃ b, b = (s_tap σ).2 := ⟨_, rfl⟩
  obtain ⟨l, hlE⟩ : ∃ l, l = (s_tap σ).1 := ⟨_, rfl⟩
  have l0 : 0 ≤ l := by rw [hlE]; exact hW.2.1.1
  have hl : l ≤ 80 := by rw [hlE]; exact hW.2.1.2
  have hb : ∀ j, 0 ≤ j → j < l → 0 ≤ b j ∧ b j ≤ 255 := by rw [hlE, hbE]; exact hW.2.2.1
  have hT : TP b l h := by rw [hlE, hbE]; exact hM.2.2.1
  have h7 : h 373 7 = s_flt σ := hM.2.2.2.1
  have pb := ps_b (b := b) l0
  have sp1 : psF b l = 0 → sp_sheet σ = ((psS b l).2 0 0, (σ.1, σ.2.1, σ.2.2.1, σ.2.2.2.1, (0, (s_tap σ).2), s_flt σ, bgn (psS b l).2, (0, (s_pas σ).2), σ.2.2.2.2.2.2.2.2)) := fun y => by
    rw [hlE, hbE] at y ⊢
    exact if_pos y
  have sp0 : psF b l ≠ 0 → sp_sheet σ = (-1000100 - (psS b l).1.1, (σ.1, σ.2.1, σ.2.2.1, σ.2.2.2.1, (0, (s_tap σ).2), psF b l, s_liv σ, s_pas σ, σ.2.2.2.2.2.2.2.2)) := fun y => by
    rw [hlE, hbE] at y ⊢
    exact if_neg y
  have t190 : ∀ hh : Mem, RM b l (s_flt σ) hh ((psS b l).1.1, psF b l) → ((psS b l).1.2 = 0 → DI hh (psS b l).2) → FK3 h hh → AW M_X9_sheet 0 0 (PM (sp_sheet σ) h (TT e q n L)) 190 [some (vR 373), none] [] (TT e q n L) hh 0 0 := by
    intro hh hR hD hf
    have q8 : am_up hh 373 6 0 373 8 = hh 373 8 := by simp [am_up]
    have ne : ∀ k : Int, k ≠ 6 → am_up hh 373 6 0 373 k = hh 373 k := fun k hk => by simp [am_up, hk]
    have w8 : (psF b l = 0 ∧ hh 373 8 = -1) ∨ (psF b l ≠ 0 ∧ hh 373 8 = (psS b l).1.1) := by
      by_cases y : psF b l = 0
      · exact Or.inl ⟨y, (hR.2.1 y).1⟩
      · exact Or.inr ⟨y, (hR.2.2.1 y).1⟩
    have p0 := pb.1
    have fc : ∀ c, c ≠ 373 → c ≠ 380 → am_up hh 373 6 0 c = h c := fun c c1 c2 => by rw [am_up_ne c1]; exact hf.1 c c1 c2
    refine aw_aload_n dX9_sheet_190 rfl ?_
    refine aw_iconst dX9_sheet_191 (by decide) (by decide) ?_
    refine aw_putI dX9_sheet_192 fp_RX9_88 (by first | rfl | assumption) ?_
    refine aw_aload_n dX9_sheet_195 rfl ?_
    refine aw_v0i dX9_sheet_196 vl_RX9_110 (by first | rfl | assumption) (Nat.le_of_ble_eq_true rfl) (Nat.le_of_ble_eq_true rfl) (Nat.le_of_ble_eq_true rfl) (Nat.le_refl _) (Nat.le_refl _) (c_X9_isWell) ?_
    refine aw_ifB_ne 210 dX9_sheet_199 rfl (fun c199 => ?_) (fun c199 => ?_)
    · rw [q8] at c199
      have y : psF b l = 0 := by omega
      obtain ⟨wf1, wf2, wf3⟩ := ps_wf l0 y
      have hD2 := hD wf2
      rw [sp1 y]
      refine aw_aload_n dX9_sheet_210 rfl ?_
      refine aw_getR1 dX9_sheet_211 fx_RX9_28 (by first | rfl | assumption) (by first | rfl | assumption) ?_
      refine aw_iconst dX9_sheet_214 (by decide) (by decide) ?_
      refine aw_aload_n dX9_sheet_215 rfl ?_
      refine aw_getR1 dX9_sheet_216 fx_RX9_25 (by first | rfl | assumption) (by first | rfl | assumption) ?_
      refine aw_iconst dX9_sheet_219 (by decide) (by decide) ?_
      refine aw_s4q dX9_sheet_220 sl_RX9_145 (Nat.le_of_ble_eq_true rfl) (Nat.le_of_ble_eq_true rfl) (Nat.le_of_ble_eq_true rfl) (Nat.le_refl _) (Nat.le_refl _) (c_X9_copies (Nx := 53) (Ny := 53) rfl rfl (by decide) (by omega) (by omega) (by omega) (by omega) (by decide) (by decide) (by decide)) ?_
      intro v t' h1 hq
      obtain ⟨rfl, rfl, k1, k2, k3⟩ := hq
      have ev1 := DI_bgn (h' := h1) hD2 (fun k k0 k4 => by rw [k1 k k0 k4, am_up_ne (by decide)])
      have ne2 : ∀ k : Int, k ≠ 6 → k ≠ 17 → am_up h1 373 17 0 373 k = hh 373 k := fun k c1 c2 => by
        rw [← ne k c1, ← k3 373 (by decide)]; simp [am_up, c2]
      have fc2 : ∀ c, c ≠ 373 → c ≠ 380 → c ≠ 379 → am_up h1 373 17 0 c = h c := fun c c1 c2 c3 => by rw [am_up_ne c1, k3 c c3]; exact fc c c1 c2
      have q6 : h1 373 6 = 0 := by rw [k3 373 (by decide)]; simp [am_up]
      have z6 : am_up h1 373 17 0 373 6 = 0 := by simp [am_up]; exact q6
      have e3 : am_up h1 373 17 0 379 3 = (psS b l).2 0 0 := by rw [am_up_ne (by decide), mA_c ev1, bgn_0 (by decide) (by decide)]
      refine aw_aload_n dX9_sheet_223 rfl ?_
      refine aw_iconst dX9_sheet_224 (by decide) (by decide) ?_
      refine aw_putI dX9_sheet_225 fp_RX9_149 (by first | rfl | assumption) ?_
      refine aw_aload_n dX9_sheet_228 rfl ?_
      refine aw_getR1 dX9_sheet_229 fx_RX9_25 (by first | rfl | assumption) (by first | rfl | assumption) ?_
      refine aw_iconst dX9_sheet_232 (by decide) (by decide) ?_
      refine aw_iaload dX9_sheet_233 (by first | rfl | assumption) (by omega) (by omega) ?_
      refine aw_ireturn dX9_sheet_234 rfl (Nat.le_refl _) (Nat.le_refl _) ?_
      exact ⟨am_ri e3, rfl, hM.sht z6 (by rw [ne2 7 (by decide) (by decide)]; exact (hR.2.1 y).2.1) (by rw [mV_fr (am_up_ne (by decide))]; exact ev1) ⟨by simp [am_up], by show 0 ≤ 24; omega, fun j hj => absurd hj (Nat.not_lt_zero j)⟩ (fun c hc => fc2 c (by omega) (by omega) (by omega)) (fun k hk => by rw [ne2 k (by omega) (by omega)]; exact hf.2 k (by omega)), fun c hc => fc2 c (by omega) (by omega) (by omega)⟩
    · refine aw_ldc (n := -1000100) dX9_sheet_202 kc_RX9_144 (by decide) ?_
      refine aw_aload_n dX9_sheet_204 rfl ?_
      refine aw_getI dX9_sheet_205 fx_RX9_107 (by first | rfl | assumption) ?_
      rw [q8]
      rw [q8] at c199
      have e8' : hh 373 8 = (psS b l).1.1 := by omega
      rw [e8']
      refine aw_isub dX9_sheet_208 (by omega) (by omega) ?_
      refine aw_ireturn dX9_sheet_209 rfl (Nat.le_refl _) (Nat.le_refl _) ?_
      have y : psF b l ≠ 0 := by omega
      rw [sp0 y]
      refine ⟨rfl, rfl, hM.sht (by simp [am_up]) (by rw [ne 7 (by decide)]; exact (hR.2.2.1 y).2) (by rw [mV_fr (fc 379 (by decide) (by decide))]; exact hM.2.2.2.2.1) ⟨by rw [ne 17 (by decide), hf.2 17 (by omega)]; exact hM.2.2.2.2.2.1.1, hM.2.2.2.2.2.1.2.1, fun j hj => by rw [mV_fr (fc 382 (by decide) (by decide))]; exact hM.2.2.2.2.2.1.2.2 j hj⟩ (fun c hc => fc c (by omega) (by omega)) (fun k hk => by rw [ne k (by omega)]; exact hf.2 k (by omega)), fun c hc => fc c (by omega) (by omega)⟩
  have t152 : ∀ (hh : Mem) (x : Int × Int) (V : VW), RM b l (s_flt σ) hh x → (x.2 = 0 → DI hh V) → (0 ≤ hh 380 3 ∧ hh 380 3 ≤ 12) → FK3 h hh → psS b l = (muS (if 0 < V 0 0 ∧ x.1 = l then 1 else 0) 1 x, V) → AW M_X9_sheet 0 0 (PM (sp_sheet σ) h (TT e q n L)) 152 [some (vR 373), none] [] (TT e q n L) hh 0 0 := by
    intro hh x V hR hD bd hf hS
    have eis : ∀ is : Int, ((0 < hh 380 3 ∧ hh 373 11 = 0 ∧ is = 1) ∨ (¬ (0 < hh 380 3 ∧ hh 373 11 = 0) ∧ is = 0)) → muS is 1 x = (psS b l).1 := fun is hi => by
      rw [hS]
      show muS is 1 x = muS _ 1 x
      by_cases y : x.2 = 0
      · obtain ⟨s1, s2, s3, s4, s5, s6⟩ := hR.2.1 y
        have ti := (tk_iff (p := x.1) hb hR.2.2.2.1).2.2.1
        have d1 := (hD y).1.1
        have x1 := hR.2.2.2.2
        rw [d1, s5, ti] at hi
        congr 1
        by_cases w : 0 < V 0 0 ∧ x.1 = l
        · rw [if_pos w]; omega
        · rw [if_neg w]; omega
      · unfold muS; rw [if_pos y, if_pos y]
    have e2 : (psS b l).2 = V := by rw [hS]
    have ear : ∀ h1 : Mem, h1 380 = hh 380 → muS (if arM h1 (h1 380 3).toNat = true then 1 else 0) 4 (psS b l).1 = ((psS b l).1.1, psF b l) := fun h1 g8 => by
      unfold psF
      by_cases y : (psS b l).1.2 = 0
      · have x2 : x.2 = 0 := by
          by_cases w : x.2 = 0
          · exact w
          · rw [hS] at y
            have : (muS (if 0 < V 0 0 ∧ x.1 = l then 1 else 0) 1 x) = x := if_pos w
            rw [show ((muS (if 0 < V 0 0 ∧ x.1 = l then 1 else 0) 1 x, V) : PS).1 = x from this] at y
            exact absurd y w
        have D1 : DI h1 (psS b l).2 := by rw [e2]; exact (hD x2).fr g8
        have ok := ps_ok l0 y
        have y' : ¬ (psS b l).1.2 ≠ 0 := fun z => z y
        rw [D1.1.1, arM_lk D1 ok.1 _ (by omega), if_neg y']
        unfold muS
        rw [if_neg y']
        by_cases w : lkS (psS b l).2 ((psS b l).2 0 0).toNat = true
        · rw [if_pos w, if_pos w, if_pos (show (1 : Int) ≠ 0 by decide)]
          exact Prod.ext rfl y
        · rw [if_neg w, if_neg w, if_neg (show ¬ ((0 : Int) ≠ 0) by decide)]
      · unfold muS
        rw [if_pos y, if_pos y]
    refine aw_aload_n dX9_sheet_152 rfl ?_
    refine aw_aload_n dX9_sheet_153 rfl ?_
    refine aw_getR1 dX9_sheet_154 fx_RX9_28 (by first | rfl | assumption) (by first | rfl | assumption) ?_
    refine aw_iconst dX9_sheet_157 (by decide) (by decide) ?_
    refine aw_iaload dX9_sheet_158 (by first | rfl | assumption) (by omega) (by omega) ?_
    refine aw_if_le 173 dX9_sheet_159 rfl (fun c159 => ?_) (fun c159 => ?_)
    · refine aw_iconst dX9_sheet_173 (by decide) (by decide) ?_
      refine aw_iconst dX9_sheet_174 (by decide) (by decide) ?_
      refine aw_v2q dX9_sheet_175 vl_RX9_136 (by first | rfl | assumption) (Nat.le_of_ble_eq_true rfl) (Nat.le_of_ble_eq_true rfl) (Nat.le_of_ble_eq_true rfl) (Nat.le_refl _) (Nat.le_refl _) (c_X9_must hR (by decide) hl hb) ?_
      intro v t' h1 hq
      obtain ⟨rfl, rfl, f1, f2⟩ := hq
      rw [eis _ (by omega)] at f1
      have g8 := f2.1 380 (by decide)
      refine aw_aload_n dX9_sheet_178 rfl ?_
      refine aw_aload_n dX9_sheet_179 rfl ?_
      refine aw_getR1 dX9_sheet_180 fx_RX9_28 (by first | rfl | assumption) (by first | rfl | assumption) ?_
      refine aw_s1i dX9_sheet_183 sl_RX9_140 (Nat.le_of_ble_eq_true rfl) (Nat.le_of_ble_eq_true rfl) (Nat.le_of_ble_eq_true rfl) (Nat.le_refl _) (Nat.le_refl _) (c_X9_areThere rfl (by rw [g8]; exact bd.1) (by rw [g8]; exact bd.2)) ?_
      refine aw_iconst dX9_sheet_186 (by decide) (by decide) ?_
      refine aw_v2q dX9_sheet_187 vl_RX9_136 (by first | rfl | assumption) (Nat.le_of_ble_eq_true rfl) (Nat.le_of_ble_eq_true rfl) (Nat.le_of_ble_eq_true rfl) (Nat.le_refl _) (Nat.le_refl _) (c_X9_must f1 (by decide) hl hb) ?_
      intro v t' h2 hq
      obtain ⟨rfl, rfl, f3, f4⟩ := hq
      rw [ear h1 g8] at f3
      exact t190 h2 f3 (fun y => by
        have x2 : x.2 = 0 := by
          by_cases w : x.2 = 0
          · exact w
          · rw [hS] at y
            have : (muS (if 0 < V 0 0 ∧ x.1 = l then 1 else 0) 1 x) = x := if_pos w
            rw [show ((muS (if 0 < V 0 0 ∧ x.1 = l then 1 else 0) 1 x, V) : PS).1 = x from this] at y
            exact absurd y w
        rw [e2]
        exact ((hD x2).fr g8).fr (f4.1 380 (by decide))) ((hf.tr f2.k3).tr f4.k3)
    · refine aw_aload_n dX9_sheet_162 rfl ?_
      refine aw_getI dX9_sheet_163 fx_RX9_104 (by first | rfl | assumption) ?_
      refine aw_if_ne 173 dX9_sheet_166 rfl (fun c166 => ?_) (fun c166 => ?_)
      · refine aw_iconst dX9_sheet_173 (by decide) (by decide) ?_
        refine aw_iconst dX9_sheet_174 (by decide) (by decide) ?_
        refine aw_v2q dX9_sheet_175 vl_RX9_136 (by first | rfl | assumption) (Nat.le_of_ble_eq_true rfl) (Nat.le_of_ble_eq_true rfl) (Nat.le_of_ble_eq_true rfl) (Nat.le_refl _) (Nat.le_refl _) (c_X9_must hR (by decide) hl hb) ?_
        intro v t' h1 hq
        obtain ⟨rfl, rfl, f1, f2⟩ := hq
        rw [eis _ (by omega)] at f1
        have g8 := f2.1 380 (by decide)
        refine aw_aload_n dX9_sheet_178 rfl ?_
        refine aw_aload_n dX9_sheet_179 rfl ?_
        refine aw_getR1 dX9_sheet_180 fx_RX9_28 (by first | rfl | assumption) (by first | rfl | assumption) ?_
        refine aw_s1i dX9_sheet_183 sl_RX9_140 (Nat.le_of_ble_eq_true rfl) (Nat.le_of_ble_eq_true rfl) (Nat.le_of_ble_eq_true rfl) (Nat.le_refl _) (Nat.le_refl _) (c_X9_areThere rfl (by rw [g8]; exact bd.1) (by rw [g8]; exact bd.2)) ?_
        refine aw_iconst dX9_sheet_186 (by decide) (by decide) ?_
        refine aw_v2q dX9_sheet_187 vl_RX9_136 (by first | rfl | assumption) (Nat.le_of_ble_eq_true rfl) (Nat.le_of_ble_eq_true rfl) (Nat.le_of_ble_eq_true rfl) (Nat.le_refl _) (Nat.le_refl _) (c_X9_must f1 (by decide) hl hb) ?_
        intro v t' h2 hq
        obtain ⟨rfl, rfl, f3, f4⟩ := hq
        rw [ear h1 g8] at f3
        exact t190 h2 f3 (fun y => by
          have x2 : x.2 = 0 := by
            by_cases w : x.2 = 0
            · exact w
            · rw [hS] at y
              have : (muS (if 0 < V 0 0 ∧ x.1 = l then 1 else 0) 1 x) = x := if_pos w
              rw [show ((muS (if 0 < V 0 0 ∧ x.1 = l then 1 else 0) 1 x, V) : PS).1 = x from this] at y
              exact absurd y w
          rw [e2]
          exact ((hD x2).fr g8).fr (f4.1 380 (by decide))) ((hf.tr f2.k3).tr f4.k3)
      · refine aw_iconst dX9_sheet_169 (by decide) (by decide) ?_
        refine aw_goto 174 dX9_sheet_170 rfl ?_
        refine aw_iconst dX9_sheet_174 (by decide) (by decide) ?_
        refine aw_v2q dX9_sheet_175 vl_RX9_136 (by first | rfl | assumption) (Nat.le_of_ble_eq_true rfl) (Nat.le_of_ble_eq_true rfl) (Nat.le_of_ble_eq_true rfl) (Nat.le_refl _) (Nat.le_refl _) (c_X9_must hR (by decide) hl hb) ?_
        intro v t' h1 hq
        obtain ⟨rfl, rfl, f1, f2⟩ := hq
        rw [eis _ (by omega)] at f1
        have g8 := f2.1 380 (by decide)
        refine aw_aload_n dX9_sheet_178 rfl ?_
        refine aw_aload_n dX9_sheet_179 rfl ?_
        refine aw_getR1 dX9_sheet_180 fx_RX9_28 (by first | rfl | assumption) (by first | rfl | assumption) ?_
        refine aw_s1i dX9_sheet_183 sl_RX9_140 (Nat.le_of_ble_eq_true rfl) (Nat.le_of_ble_eq_true rfl) (Nat.le_of_ble_eq_true rfl) (Nat.le_refl _) (Nat.le_refl _) (c_X9_areThere rfl (by rw [g8]; exact bd.1) (by rw [g8]; exact bd.2)) ?_
        refine aw_iconst dX9_sheet_186 (by decide) (by decide) ?_
        refine aw_v2q dX9_sheet_187 vl_RX9_136 (by first | rfl | assumption) (Nat.le_of_ble_eq_true rfl) (Nat.le_of_ble_eq_true rfl) (Nat.le_of_ble_eq_true rfl) (Nat.le_refl _) (Nat.le_refl _) (c_X9_must f1 (by decide) hl hb) ?_
        intro v t' h2 hq
        obtain ⟨rfl, rfl, f3, f4⟩ := hq
        rw [ear h1 g8] at f3
        exact t190 h2 f3 (fun y => by
          have x2 : x.2 = 0 := by
            by_cases w : x.2 = 0
            · exact w
            · rw [hS] at y
              have : (muS (if 0 < V 0 0 ∧ x.1 = l then 1 else 0) 1 x) = x := if_pos w
              rw [show ((muS (if 0 < V 0 0 ∧ x.1 = l then 1 else 0) 1 x, V) : PS).1 = x from this] at y
              exact absurd y w
          rw [e2]
          exact ((hD x2).fr g8).fr (f4.1 380 (by decide))) ((hf.tr f2.k3).tr f4.k3)
  have t63 : ∀ h3 : Mem, RM b l (s_flt σ) h3 (lw1 b l) → (∀ j : Int, 0 ≤ j → j < 53 → h3 380 j = 0) → FK3 h h3 → AW M_X9_sheet 0 0 (PM (sp_sheet σ) h (TT e q n L)) 63 [some (vR 373), none] [] (TT e q n L) h3 0 0 := by
    intro h3 hR hz hf
    refine aw_aload_n dX9_sheet_63 rfl ?_
    refine aw_getR1 dX9_sheet_64 fx_RX9_28 (by first | rfl | assumption) (by first | rfl | assumption) ?_
    refine aw_iconst dX9_sheet_67 (by decide) (by decide) ?_
    refine aw_aload_n dX9_sheet_68 rfl ?_
    refine aw_iconst dX9_sheet_69 (by decide) (by decide) ?_
    refine aw_bipush dX9_sheet_70 (by decide) (by decide) ?_
    refine aw_v2q dX9_sheet_72 vl_RX9_124 (by first | rfl | assumption) (Nat.le_of_ble_eq_true rfl) (Nat.le_of_ble_eq_true rfl) (Nat.le_of_ble_eq_true rfl) (Nat.le_refl _) (Nat.le_refl _) (c_X9_figure hR hl hb) ?_
    intro v t' h4 hq
    obtain ⟨y0, rfl, g1, rfl, g2, g3⟩ := hq
    refine aw_iastore dX9_sheet_75 (by first | rfl | assumption) (by omega) (by omega) (by omega) ?_
    refine aw_aload_n dX9_sheet_76 rfl ?_
    refine aw_getR1 dX9_sheet_77 fx_RX9_28 (by first | rfl | assumption) (by first | rfl | assumption) ?_
    refine aw_iconst dX9_sheet_80 (by decide) (by decide) ?_
    refine aw_aload_n dX9_sheet_81 rfl ?_
    refine aw_iconst dX9_sheet_82 (by decide) (by decide) ?_
    refine aw_iconst dX9_sheet_83 (by decide) (by decide) ?_
    refine aw_v2q dX9_sheet_84 vl_RX9_130 (by first | rfl | assumption) (Nat.le_of_ble_eq_true rfl) (Nat.le_of_ble_eq_true rfl) (Nat.le_of_ble_eq_true rfl) (Nat.le_refl _) (Nat.le_refl _) (c_X9_follows g2.up hl hb) ?_
    intro v t' h5 hq
    obtain ⟨y1, rfl, g4, rfl, g5, g6⟩ := hq
    refine aw_iastore dX9_sheet_87 (by first | rfl | assumption) (by omega) (by omega) (by omega) ?_
    refine aw_aload_n dX9_sheet_88 rfl ?_
    refine aw_getR1 dX9_sheet_89 fx_RX9_28 (by first | rfl | assumption) (by first | rfl | assumption) ?_
    refine aw_iconst dX9_sheet_92 (by decide) (by decide) ?_
    refine aw_aload_n dX9_sheet_93 rfl ?_
    refine aw_iconst dX9_sheet_94 (by decide) (by decide) ?_
    refine aw_bipush dX9_sheet_95 (by decide) (by decide) ?_
    refine aw_v2q dX9_sheet_97 vl_RX9_130 (by first | rfl | assumption) (Nat.le_of_ble_eq_true rfl) (Nat.le_of_ble_eq_true rfl) (Nat.le_of_ble_eq_true rfl) (Nat.le_refl _) (Nat.le_refl _) (c_X9_follows g5.up hl hb) ?_
    intro v t' h6 hq
    obtain ⟨y2, rfl, g7, rfl, g8, g9⟩ := hq
    refine aw_iastore dX9_sheet_100 (by first | rfl | assumption) (by omega) (by omega) (by omega) ?_
    obtain ⟨h7', hh7⟩ : ∃ h7', h7' = am_up h6 380 2 y2 := ⟨_, rfl⟩
    have R7 : RM b l (s_flt σ) h7' (nmS b l 1 87 (lw3 b l)) := by rw [hh7]; exact g8.up
    rw [← hh7]
    have v8 : ∀ j : Int, h7' 380 j = if j = 2 then y2 else if j = 1 then y1 else if j = 0 then y0 else h3 380 j := fun j => by
      rw [hh7]
      unfold am_up
      by_cases a2 : j = 2
      · rw [if_pos ⟨rfl, a2⟩, if_pos a2]
      · rw [if_neg (fun z => a2 z.2), if_neg a2, g9.1 380 (by decide)]
        unfold am_up
        by_cases a1 : j = 1
        · rw [if_pos ⟨rfl, a1⟩, if_pos a1]
        · rw [if_neg (fun z => a1 z.2), if_neg a1, g6.1 380 (by decide)]
          unfold am_up
          by_cases a0 : j = 0
          · rw [if_pos ⟨rfl, a0⟩, if_pos a0]
          · rw [if_neg (fun z => a0 z.2), if_neg a0, g3.1 380 (by decide)]
    have F7 : FK3 h h7' := by rw [hh7]; exact ((((hf.tr g3.k3).up).tr g6.k3).up.tr g9.k3).up
    have ti := (tk_iff (p := (nmS b l 1 87 (lw3 b l)).1) hb R7.2.2.2.1).2.1
    have es : ∀ is : Int, (h7' 373 11 = 4 ∧ is = 1 ∨ h7' 373 11 ≠ 4 ∧ is = 0) → tkS b l is 1 (nmS b l 1 87 (lw3 b l)) = lw4 b l := fun is hi2 => tk_sg (Or.inr (by decide)) (by decide) (fun y => by
      obtain ⟨s1, s2, s3, s4, s5, s6⟩ := R7.2.1 y
      rw [s5] at hi2
      rw [← ti]
      omega)
    refine aw_aload_n dX9_sheet_101 rfl ?_
    refine aw_aload_n dX9_sheet_102 rfl ?_
    refine aw_getI dX9_sheet_103 fx_RX9_104 (by first | rfl | assumption) ?_
    refine aw_iconst dX9_sheet_106 (by decide) (by decide) ?_
    refine aw_icmp_ne 114 dX9_sheet_107 rfl (fun c107 => ?_) (fun c107 => ?_)
    · refine aw_iconst dX9_sheet_114 (by decide) (by decide) ?_
      refine aw_iconst dX9_sheet_115 (by decide) (by decide) ?_
      refine aw_v2q dX9_sheet_116 vl_RX9_120 (by first | rfl | assumption) (Nat.le_of_ble_eq_true rfl) (Nat.le_of_ble_eq_true rfl) (Nat.le_of_ble_eq_true rfl) (Nat.le_refl _) (Nat.le_refl _) (c_X9_takes R7 (by decide) hl hb) ?_
      intro v t' h8 hq
      obtain ⟨rfl, rfl, f1, f2⟩ := hq
      rw [es _ (by omega)] at f1
      have e80 := f2.1 380 (by decide)
      refine aw_pop dX9_sheet_119 rfl ?_
      refine l_items (h := h) (S := psS b l) hl hb t152 l.toNat (lw4 b l) (lwV b l) h8 f1 (fun z => ?_) (by rw [e80, v8, if_neg (by decide), if_neg (by decide), if_neg (by decide), hz 3 (by decide) (by decide)]; omega) (F7.tr f2.k3) (fun z => by have := (law_ok z).2.2.2.1; omega) rfl
      obtain ⟨-, -, -, -, o1, o2, o3, o4, o5, o6⟩ := law_ok z
      unfold DI
      rw [e80, v8, v8, v8, v8, v8]
      refine ⟨⟨by rw [if_neg (by decide), if_neg (by decide), if_neg (by decide)]; exact hz 3 (by decide) (by decide), by rw [if_neg (by decide), if_neg (by decide), if_pos rfl]; exact g1 o2, by rw [if_neg (by decide), if_pos rfl]; exact g4 o4, by rw [if_pos rfl]; exact g7 o6, by rw [if_neg (by decide), if_neg (by decide), if_neg (by decide)]; exact hz 4 (by decide) (by decide)⟩, fun k k0 k1 => absurd (show k < 0 from k1) (by omega), fun k k0 k1 => by rw [v8, if_neg (by omega), if_neg (by omega), if_neg (by omega)]; exact hz _ (by omega) (by omega), by rw [lwV_00]; omega, by rw [lwV_00]; omega⟩
    · refine aw_iconst dX9_sheet_110 (by decide) (by decide) ?_
      refine aw_goto 115 dX9_sheet_111 rfl ?_
      refine aw_iconst dX9_sheet_115 (by decide) (by decide) ?_
      refine aw_v2q dX9_sheet_116 vl_RX9_120 (by first | rfl | assumption) (Nat.le_of_ble_eq_true rfl) (Nat.le_of_ble_eq_true rfl) (Nat.le_of_ble_eq_true rfl) (Nat.le_refl _) (Nat.le_refl _) (c_X9_takes R7 (by decide) hl hb) ?_
      intro v t' h8 hq
      obtain ⟨rfl, rfl, f1, f2⟩ := hq
      rw [es _ (by omega)] at f1
      have e80 := f2.1 380 (by decide)
      refine aw_pop dX9_sheet_119 rfl ?_
      refine l_items (h := h) (S := psS b l) hl hb t152 l.toNat (lw4 b l) (lwV b l) h8 f1 (fun z => ?_) (by rw [e80, v8, if_neg (by decide), if_neg (by decide), if_neg (by decide), hz 3 (by decide) (by decide)]; omega) (F7.tr f2.k3) (fun z => by have := (law_ok z).2.2.2.1; omega) rfl
      obtain ⟨-, -, -, -, o1, o2, o3, o4, o5, o6⟩ := law_ok z
      unfold DI
      rw [e80, v8, v8, v8, v8, v8]
      refine ⟨⟨by rw [if_neg (by decide), if_neg (by decide), if_neg (by decide)]; exact hz 3 (by decide) (by decide), by rw [if_neg (by decide), if_neg (by decide), if_pos rfl]; exact g1 o2, by rw [if_neg (by decide), if_pos rfl]; exact g4 o4, by rw [if_pos rfl]; exact g7 o6, by rw [if_neg (by decide), if_neg (by decide), if_neg (by decide)]; exact hz 4 (by decide) (by decide)⟩, fun k k0 k1 => absurd (show k < 0 from k1) (by omega), fun k k0 k1 => by rw [v8, if_neg (by omega), if_neg (by omega), if_neg (by omega)]; exact hz _ (by omega) (by omega), by rw [lwV_00]; omega, by rw [lwV_00]; omega⟩
  have t21 : ∀ h0 : Mem, (∀ c, c ≠ 380 → h0 c = h c) → (∀ j : Int, 0 ≤ j → j < 53 → h0 380 j = 0) → AW M_X9_sheet 0 0 (PM (sp_sheet σ) h (TT e q n L)) 21 [some (vR 373), none] [] (TT e q n L) h0 0 0 := by
    intro h0 g1 g2
    obtain ⟨h1, hh1⟩ : ∃ h1, h1 = am_up (am_up h0 373 9 0) 373 8 (-1) := ⟨_, rfl⟩
    have c1 : ∀ c, c ≠ 373 → h1 c = h0 c := fun c hc => by rw [hh1, am_up_ne hc, am_up_ne hc]
    have x1 : ∀ k : Int, k ≠ 8 → k ≠ 9 → h1 373 k = h 373 k := fun k a1 a2 => by rw [hh1, ← g1 373 (by decide)]; simp [am_up, a1, a2]
    have T1 : TP b l h1 := ⟨by rw [x1 6 (by decide) (by decide)]; exact hT.1, fun j j0 j1 => by rw [c1 378 (by decide), g1 378 (by decide)]; exact hT.2 j j0 j1⟩
    have F1 : FK3 h h1 := ⟨fun c a1 a2 => by rw [c1 c a1]; exact g1 c a2, fun k hk => x1 k (by omega) (by omega)⟩
    have ti := tk_iff (p := 0) hb (Int.le_refl 0)
    refine aw_aload_n dX9_sheet_21 rfl ?_
    refine aw_iconst dX9_sheet_22 (by decide) (by decide) ?_
    refine aw_putI dX9_sheet_23 fp_RX9_92 (by first | rfl | assumption) ?_
    refine aw_aload_n dX9_sheet_26 rfl ?_
    refine aw_iconst dX9_sheet_27 (by decide) (by decide) ?_
    refine aw_putI dX9_sheet_28 fp_RX9_107 (by first | rfl | assumption) ?_
    rw [← hh1]
    refine aw_aload_n dX9_sheet_31 rfl ?_
    refine aw_v0q dX9_sheet_32 vl_RX9_117 (by first | rfl | assumption) (Nat.le_of_ble_eq_true rfl) (Nat.le_of_ble_eq_true rfl) (Nat.le_of_ble_eq_true rfl) (Nat.le_refl _) (Nat.le_refl _) (c_X9_advances (p := 0) T1 (by rw [hh1]; simp [am_up]) (by omega) l0 hl hb) ?_
    intro v t' h2 hq
    obtain ⟨rfl, rfl, f1, f2⟩ := hq
    have R2 : RM b l (s_flt σ) h2 (0, 0) := ⟨f2.tp T1, fun _ => ⟨by rw [f2.2 8 (by omega), hh1]; simp [am_up], by rw [f2.2 7 (by omega), x1 7 (by decide) (by decide)]; exact h7, f1⟩, fun z => absurd rfl z, Int.le_refl 0, l0⟩
    have s5 : h2 373 11 = tkN b l 0 := f1.2.2.1
    have s6 : h2 373 12 = vlN b l 0 := f1.2.2.2
    have es : ∀ is : Int, ((h2 373 11 = 1 ∧ h2 373 12 = 119) ∧ is = 1 ∨ ¬ (h2 373 11 = 1 ∧ h2 373 12 = 119) ∧ is = 0) → tkS b l is 1 (0, 0) = lw1 b l := fun is hi2 => tk_sg (Or.inr (by decide)) (by decide) (fun y => by
      show is ≠ 0 ↔ (0 < l ∧ b 0 = 119)
      rw [s5, s6] at hi2
      have i1 := ti.2.2.2.1
      have i2 := ti.2.2.2.2.1
      have i3 := ti.2.2.2.2.2
      constructor
      · intro w
        have w1 : tkN b l 0 = 1 ∧ vlN b l 0 = 119 := by omega
        have w2 := i1.mp w1.1
        have w3 := i2 (i3 w1.1) w2.1
        exact ⟨w2.1, by rw [← w3]; exact w1.2⟩
      · intro w
        have w1 := i1.mpr ⟨w.1, by omega, by omega⟩
        have w3 := i2 (i3 w1) w.1
        have w4 : vlN b l 0 = 119 := by rw [w3]; exact w.2
        omega)
    refine aw_aload_n dX9_sheet_35 rfl ?_
    refine aw_aload_n dX9_sheet_36 rfl ?_
    refine aw_getI dX9_sheet_37 fx_RX9_104 (by first | rfl | assumption) ?_
    refine aw_iconst dX9_sheet_40 (by decide) (by decide) ?_
    refine aw_icmp_ne 57 dX9_sheet_41 rfl (fun c41 => ?_) (fun c41 => ?_)
    · refine aw_iconst dX9_sheet_57 (by decide) (by decide) ?_
      refine aw_iconst dX9_sheet_58 (by decide) (by decide) ?_
      refine aw_v2q dX9_sheet_59 vl_RX9_120 (by first | rfl | assumption) (Nat.le_of_ble_eq_true rfl) (Nat.le_of_ble_eq_true rfl) (Nat.le_of_ble_eq_true rfl) (Nat.le_refl _) (Nat.le_refl _) (c_X9_takes R2 (by decide) hl hb) ?_
      intro v t' h3 hq
      obtain ⟨rfl, rfl, f3, f4⟩ := hq
      rw [es _ (by omega)] at f3
      refine aw_pop dX9_sheet_62 rfl ?_
      exact t63 h3 f3 (fun j j0 j1 => by rw [f4.1 380 (by decide), f2.1 380 (by decide), c1 380 (by decide)]; exact g2 j j0 j1) ((F1.tr f2.k2.k3).tr f4.k3)
    · refine aw_aload_n dX9_sheet_44 rfl ?_
      refine aw_getI dX9_sheet_45 fx_RX9_101 (by first | rfl | assumption) ?_
      refine aw_bipush dX9_sheet_48 (by decide) (by decide) ?_
      refine aw_icmp_ne 57 dX9_sheet_50 rfl (fun c50 => ?_) (fun c50 => ?_)
      · refine aw_iconst dX9_sheet_57 (by decide) (by decide) ?_
        refine aw_iconst dX9_sheet_58 (by decide) (by decide) ?_
        refine aw_v2q dX9_sheet_59 vl_RX9_120 (by first | rfl | assumption) (Nat.le_of_ble_eq_true rfl) (Nat.le_of_ble_eq_true rfl) (Nat.le_of_ble_eq_true rfl) (Nat.le_refl _) (Nat.le_refl _) (c_X9_takes R2 (by decide) hl hb) ?_
        intro v t' h3 hq
        obtain ⟨rfl, rfl, f3, f4⟩ := hq
        rw [es _ (by omega)] at f3
        refine aw_pop dX9_sheet_62 rfl ?_
        exact t63 h3 f3 (fun j j0 j1 => by rw [f4.1 380 (by decide), f2.1 380 (by decide), c1 380 (by decide)]; exact g2 j j0 j1) ((F1.tr f2.k2.k3).tr f4.k3)
      · refine aw_iconst dX9_sheet_53 (by decide) (by decide) ?_
        refine aw_goto 58 dX9_sheet_54 rfl ?_
        refine aw_iconst dX9_sheet_58 (by decide) (by decide) ?_
        refine aw_v2q dX9_sheet_59 vl_RX9_120 (by first | rfl | assumption) (Nat.le_of_ble_eq_true rfl) (Nat.le_of_ble_eq_true rfl) (Nat.le_of_ble_eq_true rfl) (Nat.le_refl _) (Nat.le_refl _) (c_X9_takes R2 (by decide) hl hb) ?_
        intro v t' h3 hq
        obtain ⟨rfl, rfl, f3, f4⟩ := hq
        rw [es _ (by omega)] at f3
        refine aw_pop dX9_sheet_62 rfl ?_
        exact t63 h3 f3 (fun j j0 j1 => by rw [f4.1 380 (by decide), f2.1 380 (by decide), c1 380 (by decide)]; exact g2 j j0 j1) ((F1.tr f2.k2.k3).tr f4.k3)
  refine sem_intro (by decide) rfl (Nat.le_of_ble_eq_true rfl) rfl ?_
  refine aw_iconst dX9_sheet_0 (by decide) (by decide) ?_
  refine aw_istore_n (ls' := [_, _]) dX9_sheet_1 (by decide) rfl ?_
  exact l_zero (h := h) t21 53 0 h (by omega) (fun _ _ => rfl) (fun j j0 j1 => absurd j1 (by omega))
end SCG
