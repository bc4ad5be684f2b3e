/-! the reference: what is foretold -/
section MON
variable {e q n L : Nat} {h : Mem} {σ : ST} {V : VW}
theorem addR_rnd {V : VW} {r : Int} : addR (rnd (addR V r)) 1 = addR (rnd V) (r + 1) := by rw [rnd_addR, addR_add]
/-- the sheet there is comes into the one that is tried -/
theorem ev_copy {h h1 : Mem} (ev : mV h 379 0 = V) (v2 : V 0 0 ≤ 12) (k1 : ∀ k, 0 ≤ k → k < 53 → h1 381 (0 + k) = h 379 (0 + k)) : mV h1 381 0 = V := by
  rw [← ev]
  exact mV_congr (fun k k0 k4 => k1 k k0 k4) (by rw [show (0 : Int) + 3 = 3 from rfl, mA_c ev]; exact v2)
def F81 (h h' : Mem) : Prop := ∀ c, c ≠ 381 → c ≠ 385 → h' c = h c
theorem F81.sm {h h' : Mem} (f : F81 h h') : SM h h' := sm_of (fun c _ _ c1 c2 _ _ => f c c1 c2)
theorem l_behM {Q : Option AV → Tp → Mem → Prop} {i k : Int} (hV : WFv V) (r0 : 0 ≤ V 0 4) (r1 : V 0 4 ≤ 9999) (i0 : 0 ≤ i) (i1 : i < V 0 0) (k1 : k ≤ 60) (hk : ∀ hh, F81 h hh → Q (some (vI (rndN V k.toNat 3 i))) (TT e q n L) hh) :
    ∀ (m x : Nat) (hh : Mem), (x : Int) + m = k → F81 h hh → mV hh 381 0 = addR (rndN V x) x → AW M_X9_behind 0 0 Q 36 [some (vR 373), some (vI i), some (vI k), some (vI x)] [] (TT e q n L) hh 0 0 := by
  have v2 := hV.2.1
  intro m
  induction m with
  | zero =>
    intro x hh hx hf ev
    have ex : k.toNat = x := by omega
    rw [ex] at hk
    have e3 : hh 381 (5 + 4 * i + 2) = rndN V x 3 i := by rw [mA3 ev i0 (by rw [addR_0, rndN_0]; exact i1), addRj (by decide)]
    refine aw_iload_n dX9_behind_36 rfl ?_
    refine aw_iload_n dX9_behind_37 rfl ?_
    refine aw_icmp_ge 56 dX9_behind_38 rfl (fun c38 => ?_) (fun c38 => ?_)
    · refine aw_aload_n dX9_behind_56 rfl ?_
      refine aw_getR1 dX9_behind_57 fx_RX9_31 (by first | rfl | assumption) (by first | rfl | assumption) ?_
      refine aw_iconst dX9_behind_60 (by decide) (by decide) ?_
      refine aw_iconst dX9_behind_61 (by decide) (by decide) ?_
      refine aw_iload_n dX9_behind_62 rfl ?_
      refine aw_imul dX9_behind_63 (by omega) (by omega) ?_
      refine aw_iadd dX9_behind_64 (by omega) (by omega) ?_
      refine aw_iconst dX9_behind_65 (by decide) (by decide) ?_
      refine aw_iadd dX9_behind_66 (by omega) (by omega) ?_
      refine aw_iaload dX9_behind_67 (by first | rfl | assumption) (by omega) (by omega) ?_
      rw [e3]
      refine aw_ireturn dX9_behind_68 rfl (Nat.le_refl _) (Nat.le_refl _) ?_
      exact hk hh hf
    · exfalso; omega
  | succ m ih =>
    intro x hh hx hf ev
    have z := ih (x + 1)
    have er : addR (rndN V x) x 0 4 = V 0 4 + x := by rw [addR_4, rndN_0]
    have wx := addR_wf (r := (x : Int)) (rndN_wf hV x)
    refine aw_iload_n dX9_behind_36 rfl ?_
    refine aw_iload_n dX9_behind_37 rfl ?_
    refine aw_icmp_ge 56 dX9_behind_38 rfl (fun c38 => ?_) (fun c38 => ?_)
    · exfalso; omega
    · refine aw_aload_n dX9_behind_41 rfl ?_
      refine aw_aload_n dX9_behind_42 rfl ?_
      refine aw_getR1 dX9_behind_43 fx_RX9_31 (by first | rfl | assumption) (by first | rfl | assumption) ?_
      refine aw_v1q dX9_behind_46 vl_RX9_182 (by first | rfl | assumption) (Nat.le_of_ble_eq_true rfl) (Nat.le_of_ble_eq_true rfl) (Nat.le_of_ble_eq_true rfl) (Nat.le_refl _) (Nat.le_refl _) (c_X9_rounds (a := 381) rfl (by decide) (by decide) ev wx (by omega) (by omega)) ?_
      intro v t' h2 hq
      obtain ⟨rfl, rfl, g1, g2⟩ := hq
      rw [addR_rnd] at g1
      refine aw_pop dX9_behind_49 rfl ?_
      refine aw_iinc (ls' := [_, _, _, _]) dX9_behind_50 (by decide) rfl (by omega) (by omega) rfl ?_
      refine aw_goto 36 dX9_behind_53 rfl ?_
      exact z _ (by omega) (fun c c1 c2 => by rw [g2 c c1 c2]; exact hf c c1 c2) g1
theorem c_X9_behind {i k : Int} (hM : MS h σ) (hW : WFst σ) : Sem M_X9_behind [vR 373, vI i, vI k] (TT e q n L) h 0 0 (PM (sp_behind σ i k) h (TT e q n L)) := by
  unfold sp_behind
  have ev : mV h 379 0 = s_liv σ := hM.2.2.2.2.1
  have ec : h 379 3 = s_liv σ 0 0 := mA_c ev
  have ws := wf_sh hW.2.2.2.1
  refine sem_intro (by decide) rfl (Nat.le_of_ble_eq_true rfl) rfl ?_
  refine aw_aload_n dX9_behind_0 rfl ?_
  refine aw_iload_n dX9_behind_1 rfl ?_
  refine aw_v1i dX9_behind_2 vl_RX9_202 (by first | rfl | assumption) (Nat.le_of_ble_eq_true rfl) (Nat.le_of_ble_eq_true rfl) (Nat.le_of_ble_eq_true rfl) (Nat.le_refl _) (Nat.le_refl _) (c_X9_isItem (by omega) (by omega)) ?_
  refine aw_ifB_eq 18 dX9_behind_5 rfl (fun c5 => ?_) (fun c5 => ?_)
  · refine aw_ldc (n := -1000001) dX9_behind_18 kc_RX9_70 (by decide) ?_
    refine aw_ireturn dX9_behind_20 rfl (Nat.le_refl _) (Nat.le_refl _) ?_
    rw [if_pos (by omega)]
    exact ⟨rfl, rfl, hM, fun _ _ => rfl⟩
  · refine aw_iload_n dX9_behind_8 rfl ?_
    refine aw_iconst dX9_behind_9 (by decide) (by decide) ?_
    refine aw_bipush dX9_behind_10 (by decide) (by decide) ?_
    refine aw_s3i dX9_behind_12 sl_RX9_62 (Nat.le_of_ble_eq_true rfl) (Nat.le_of_ble_eq_true rfl) (Nat.le_of_ble_eq_true rfl) (Nat.le_refl _) (Nat.le_refl _) (c_X9_in) ?_
    refine aw_ifB_ne 21 dX9_behind_15 rfl (fun c15 => ?_) (fun c15 => ?_)
    · have hL := wf_liv hW.2.2.2.1 (by omega)
      rw [if_neg (by omega)]
      refine aw_aload_n dX9_behind_21 rfl ?_
      refine aw_getR1 dX9_behind_22 fx_RX9_25 (by first | rfl | assumption) (by first | rfl | assumption) ?_
      refine aw_iconst dX9_behind_25 (by decide) (by decide) ?_
      refine aw_aload_n dX9_behind_26 rfl ?_
      refine aw_getR1 dX9_behind_27 fx_RX9_31 (by first | rfl | assumption) (by first | rfl | assumption) ?_
      refine aw_iconst dX9_behind_30 (by decide) (by decide) ?_
      refine aw_s4q dX9_behind_31 sl_RX9_145 (Nat.le_of_ble_eq_true rfl) (Nat.le_of_ble_eq_true rfl) (Nat.le_of_ble_eq_true rfl) (Nat.le_refl _) (Nat.le_refl _) (c_X9_copies (Nx := 53) (Ny := 53) rfl rfl (by decide) (by omega) (by omega) (by omega) (by omega) (by decide) (by decide) (by decide)) ?_
      intro v t' h1 hq
      obtain ⟨rfl, rfl, k1, k2, k3⟩ := hq
      have ev1 := ev_copy ev (by omega) k1
      refine aw_iconst dX9_behind_34 (by decide) (by decide) ?_
      refine aw_istore_n (ls' := [_, _, _, _]) dX9_behind_35 (by decide) rfl ?_
      exact l_behM (h := h) (V := s_liv σ) hL.1 hL.2.1 hL.2.2.1 (by omega) (by omega) (by omega) (fun hh f => pm_sm hM f.sm) k.toNat 0 h1 (by omega) (fun c c1 c2 => k3 c c1) (by show _ = addR (s_liv σ) 0; rw [addR_00]; exact ev1)
    · refine aw_ldc (n := -1000001) dX9_behind_18 kc_RX9_70 (by decide) ?_
      refine aw_ireturn dX9_behind_20 rfl (Nat.le_refl _) (Nat.le_refl _) ?_
      rw [if_pos (by omega)]
      exact ⟨rfl, rfl, hM, fun _ _ => rfl⟩
theorem l_lieM {Q : Option AV → Tp → Mem → Prop} {N : Nat} (ev : mV h 379 0 = V) (hV : WFv V) (hN : V 0 0 = (N : Int)) (hD : ∀ j : Nat, j < N → h 385 (3 * j) = pag V j) (hk : Q (some (vI (bset (lieP V) N))) (TT e q n L) h) :
    ∀ (m k : Nat) (z : Option AV), k + m = N → AW M_X9_lies 0 0 Q 25 [some (vR 373), some (vI (bset (lieP V) k)), some (vI k), z] [] (TT e q n L) h 0 0 := by
  have v2 := hV.2.1
  have ea := mA_c ev
  intro m
  induction m with
  | zero =>
    intro k z hi
    have ek : k = N := by omega
    subst ek
    refine aw_iload_n dX9_lies_25 rfl ?_
    refine aw_aload_n dX9_lies_26 rfl ?_
    refine aw_getR1 dX9_lies_27 fx_RX9_25 (by first | rfl | assumption) (by first | rfl | assumption) ?_
    refine aw_iconst dX9_lies_30 (by decide) (by decide) ?_
    refine aw_iaload dX9_lies_31 (by first | rfl | assumption) (by omega) (by omega) ?_
    rw [ea]
    refine aw_icmp_ge 101 dX9_lies_32 rfl (fun c32 => ?_) (fun c32 => ?_)
    · refine aw_iload_n dX9_lies_101 rfl ?_
      refine aw_ireturn dX9_lies_102 rfl (Nat.le_refl _) (Nat.le_refl _) ?_
      exact hk
    · exfalso; omega
  | succ m ih =>
    intro k zz0 hi
    have z := fun y => ih (k + 1) y (by omega)
    have wi := hV.2.2.2.2.2.2.2.2 (k : Int) (by omega) (by omega)
    have r1 := mA1 (k := (k : Int)) ev (by omega) (by omega)
    have r2 := mA2 (k := (k : Int)) ev (by omega) (by omega)
    have r3 : V 1 k ≤ 3 → h 379 (5 + 4 * V 2 k + 2) = V 3 (V 2 k) ∧ h 385 (3 * V 2 k) = pag V (V 2 k) ∧ 0 ≤ V 2 k ∧ V 2 k < 12 := fun y => by
      obtain ⟨y0, y1⟩ := wi.2.2.1 y
      have d := hD (V 2 k).toNat (by omega)
      rw [am_nat y0] at d
      exact ⟨mA3 ev y0 y1, d, y0, by omega⟩
    have b1 : ∀ y, lieP V k = true → AW M_X9_lies 0 0 Q 25 [some (vR 373), some (vI (ior (bset (lieP V) k) (shl1 k))), some (vI ((k : Int) + 1)), y] [] (TT e q n L) h 0 0 := fun y hy => by
      have := z y
      rw [bset_t hy] at this
      exact this
    have b0 : ∀ y, lieP V k = false → AW M_X9_lies 0 0 Q 25 [some (vR 373), some (vI (ior (bset (lieP V) k) 0)), some (vI ((k : Int) + 1)), y] [] (TT e q n L) h 0 0 := fun y hy => by
      have := z y
      rw [bset_f hy, ← ior_0] at this
      exact this
    refine aw_iload_n dX9_lies_25 rfl ?_
    refine aw_aload_n dX9_lies_26 rfl ?_
    refine aw_getR1 dX9_lies_27 fx_RX9_25 (by first | rfl | assumption) (by first | rfl | assumption) ?_
    refine aw_iconst dX9_lies_30 (by decide) (by decide) ?_
    refine aw_iaload dX9_lies_31 (by first | rfl | assumption) (by omega) (by omega) ?_
    rw [ea]
    refine aw_icmp_ge 101 dX9_lies_32 rfl (fun c32 => ?_) (fun c32 => ?_)
    · exfalso; omega
    · refine aw_aload_n dX9_lies_35 rfl ?_
      refine aw_getR1 dX9_lies_36 fx_RX9_25 (by first | rfl | assumption) (by first | rfl | assumption) ?_
      refine aw_iconst dX9_lies_39 (by decide) (by decide) ?_
      refine aw_iconst dX9_lies_40 (by decide) (by decide) ?_
      refine aw_iload_n dX9_lies_41 rfl ?_
      refine aw_imul dX9_lies_42 (by omega) (by omega) ?_
      refine aw_iadd dX9_lies_43 (by omega) (by omega) ?_
      refine aw_iconst dX9_lies_44 (by decide) (by decide) ?_
      refine aw_iadd dX9_lies_45 (by omega) (by omega) ?_
      refine aw_iaload dX9_lies_46 (by first | rfl | assumption) (by omega) (by omega) ?_
      rw [r2]
      refine aw_istore_n (ls' := [_, _, _, _]) dX9_lies_47 (by decide) rfl ?_
      refine aw_iload_n dX9_lies_48 rfl ?_
      refine aw_aload_n dX9_lies_49 rfl ?_
      refine aw_getR1 dX9_lies_50 fx_RX9_25 (by first | rfl | assumption) (by first | rfl | assumption) ?_
      refine aw_iconst dX9_lies_53 (by decide) (by decide) ?_
      refine aw_iconst dX9_lies_54 (by decide) (by decide) ?_
      refine aw_iload_n dX9_lies_55 rfl ?_
      refine aw_imul dX9_lies_56 (by omega) (by omega) ?_
      refine aw_iadd dX9_lies_57 (by omega) (by omega) ?_
      refine aw_iaload dX9_lies_58 (by first | rfl | assumption) (by omega) (by omega) ?_
      rw [r1]
      refine aw_iconst dX9_lies_59 (by decide) (by decide) ?_
      refine aw_icmp_gt 92 dX9_lies_60 rfl (fun c60 => ?_) (fun c60 => ?_)
      · refine aw_iconst dX9_lies_92 (by decide) (by decide) ?_
        refine aw_iorw dX9_lies_93 ?_
        refine aw_istore_n (ls' := [_, _, _, _]) dX9_lies_94 (by decide) rfl ?_
        refine aw_iinc (ls' := [_, _, _, _]) dX9_lies_95 (by decide) rfl (by omega) (by omega) rfl ?_
        refine aw_goto 25 dX9_lies_98 rfl ?_
        first | exact b1 _ (decide_eq_true ⟨by omega, c83⟩) | exact b0 _ (decide_eq_false (fun y => by first | exact y.2 c83 | (have := y.1; omega)))
      · obtain ⟨g1, g2, g3, g4⟩ := r3 (by omega)
        refine aw_aload_n dX9_lies_63 rfl ?_
        refine aw_getR1 dX9_lies_64 fx_RX9_25 (by first | rfl | assumption) (by first | rfl | assumption) ?_
        refine aw_iconst dX9_lies_67 (by decide) (by decide) ?_
        refine aw_iconst dX9_lies_68 (by decide) (by decide) ?_
        refine aw_iload_n dX9_lies_69 rfl ?_
        refine aw_imul dX9_lies_70 (by omega) (by omega) ?_
        refine aw_iadd dX9_lies_71 (by omega) (by omega) ?_
        refine aw_iconst dX9_lies_72 (by decide) (by decide) ?_
        refine aw_iadd dX9_lies_73 (by omega) (by omega) ?_
        refine aw_iaload dX9_lies_74 (by first | rfl | assumption) (by omega) (by omega) ?_
        rw [g1]
        refine aw_aload_n dX9_lies_75 rfl ?_
        refine aw_getR1 dX9_lies_76 fx_RX9_44 (by first | rfl | assumption) (by first | rfl | assumption) ?_
        refine aw_iconst dX9_lies_79 (by decide) (by decide) ?_
        refine aw_iload_n dX9_lies_80 rfl ?_
        refine aw_imul dX9_lies_81 (by omega) (by omega) ?_
        refine aw_iaload dX9_lies_82 (by first | rfl | assumption) (by omega) (by omega) ?_
        rw [g2]
        refine aw_icmp_eq 92 dX9_lies_83 rfl (fun c83 => ?_) (fun c83 => ?_)
        · refine aw_iconst dX9_lies_92 (by decide) (by decide) ?_
          refine aw_iorw dX9_lies_93 ?_
          refine aw_istore_n (ls' := [_, _, _, _]) dX9_lies_94 (by decide) rfl ?_
          refine aw_iinc (ls' := [_, _, _, _]) dX9_lies_95 (by decide) rfl (by omega) (by omega) rfl ?_
          refine aw_goto 25 dX9_lies_98 rfl ?_
          first | exact b1 _ (decide_eq_true ⟨by omega, c83⟩) | exact b0 _ (decide_eq_false (fun y => by first | exact y.2 c83 | (have := y.1; omega)))
        · refine aw_iconst dX9_lies_86 (by decide) (by decide) ?_
          refine aw_iload_n dX9_lies_87 rfl ?_
          refine aw_ishlw dX9_lies_88 ?_
          refine aw_goto 93 dX9_lies_89 rfl ?_
          refine aw_iorw dX9_lies_93 ?_
          refine aw_istore_n (ls' := [_, _, _, _]) dX9_lies_94 (by decide) rfl ?_
          refine aw_iinc (ls' := [_, _, _, _]) dX9_lies_95 (by decide) rfl (by omega) (by omega) rfl ?_
          refine aw_goto 25 dX9_lies_98 rfl ?_
          first | exact b1 _ (decide_eq_true ⟨by omega, c83⟩) | exact b0 _ (decide_eq_false (fun y => by first | exact y.2 c83 | (have := y.1; omega)))
theorem c_X9_lies (hM : MS h σ) (hW : WFst σ) : Sem M_X9_lies [vR 373] (TT e q n L) h 0 0 (PM (sp_lies σ) h (TT e q n L)) := by
  unfold sp_lies
  have ev : mV h 379 0 = s_liv σ := hM.2.2.2.2.1
  have e0 : h 379 0 = s_liv σ 0 1 := mA_w ev
  have ws := wf_sh hW.2.2.2.1
  refine sem_intro (by decide) rfl (Nat.le_of_ble_eq_true rfl) rfl ?_
  refine aw_aload_n dX9_lies_0 rfl ?_
  refine aw_v0i dX9_lies_1 vl_RX9_191 (by first | rfl | assumption) (Nat.le_of_ble_eq_true rfl) (Nat.le_of_ble_eq_true rfl) (Nat.le_of_ble_eq_true rfl) (Nat.le_refl _) (Nat.le_refl _) (c_X9_isSheet) ?_
  refine aw_ifB_ne 10 dX9_lies_4 rfl (fun c4 => ?_) (fun c4 => ?_)
  · have hL := wf_liv hW.2.2.2.1 (by omega)
    rw [if_neg (by omega)]
    refine aw_aload_n dX9_lies_10 rfl ?_
    refine aw_aload_n dX9_lies_11 rfl ?_
    refine aw_getR1 dX9_lies_12 fx_RX9_25 (by first | rfl | assumption) (by first | rfl | assumption) ?_
    refine aw_ldc (n := -1000000) dX9_lies_15 kc_RX9_56 (by decide) ?_
    refine aw_iconst dX9_lies_17 (by decide) (by decide) ?_
    refine aw_v3q dX9_lies_18 vl_RX9_162 (by first | rfl | assumption) (Nat.le_of_ble_eq_true rfl) (Nat.le_of_ble_eq_true rfl) (Nat.le_of_ble_eq_true rfl) (Nat.le_refl _) (Nat.le_refl _) (c_X9_setsOut (a := 379) rfl (by decide) ev hL.1 (by decide)) ?_
    intro v t' h1 hq
    obtain ⟨rfl, rfl, f1, f2⟩ := hq
    have fs : SM h h1 := sm_of (fun c _ _ _ c4 _ _ => f1 c c4)
    have ev1 : mV h1 379 0 = s_liv σ := by rw [← ev]; exact mV_fr (f1 379 (by decide))
    refine aw_iconst dX9_lies_21 (by decide) (by decide) ?_
    refine aw_istore_n (ls' := [_, _, _, _]) dX9_lies_22 (by decide) rfl ?_
    refine aw_iconst dX9_lies_23 (by decide) (by decide) ?_
    refine aw_istore_n (ls' := [_, _, _, _]) dX9_lies_24 (by decide) rfl ?_
    exact l_lieM (h := h1) (N := (s_liv σ 0 0).toNat) ev1 hL.1 (by omega) (fun j hj => by rw [(f2 j hj).1, xx_zz (by omega)]) (pm_sm hM fs) (s_liv σ 0 0).toNat 0 none (by omega)
  · refine aw_ldc (n := -1000002) dX9_lies_7 kc_RX9_194 (by decide) ?_
    refine aw_ireturn dX9_lies_9 rfl (Nat.le_refl _) (Nat.le_refl _) ?_
    rw [if_pos (by omega)]
    exact ⟨rfl, rfl, hM, fun _ _ => rfl⟩
theorem c_X9_settled {w : Int} (hM : MS h σ) (hW : WFst σ) : Sem M_X9_settled [vR 373, vI w] (TT e q n L) h 0 0 (PM (sp_settled σ w) h (TT e q n L)) := by
  unfold sp_settled
  have ev : mV h 379 0 = s_liv σ := hM.2.2.2.2.1
  have e0 : h 379 0 = s_liv σ 0 1 := mA_w ev
  have ws := wf_sh hW.2.2.2.1
  refine sem_intro (by decide) rfl (Nat.le_of_ble_eq_true rfl) rfl ?_
  refine aw_aload_n dX9_settled_0 rfl ?_
  refine aw_v0i dX9_settled_1 vl_RX9_191 (by first | rfl | assumption) (Nat.le_of_ble_eq_true rfl) (Nat.le_of_ble_eq_true rfl) (Nat.le_of_ble_eq_true rfl) (Nat.le_refl _) (Nat.le_refl _) (c_X9_isSheet) ?_
  refine aw_ifB_ne 10 dX9_settled_4 rfl (fun c4 => ?_) (fun c4 => ?_)
  · refine aw_iload_n dX9_settled_10 rfl ?_
    refine aw_iconst dX9_settled_11 (by decide) (by decide) ?_
    refine aw_iconst dX9_settled_12 (by decide) (by decide) ?_
    refine aw_s3i dX9_settled_13 sl_RX9_62 (Nat.le_of_ble_eq_true rfl) (Nat.le_of_ble_eq_true rfl) (Nat.le_of_ble_eq_true rfl) (Nat.le_refl _) (Nat.le_refl _) (c_X9_in) ?_
    refine aw_ifB_ne 22 dX9_settled_16 rfl (fun c16 => ?_) (fun c16 => ?_)
    · have hL := wf_liv hW.2.2.2.1 (by omega)
      have hok := settles_ok (stop := false) hL.1
      rw [if_neg (by omega), if_neg (by omega)]
      refine aw_aload_n dX9_settled_22 rfl ?_
      refine aw_getR1 dX9_settled_23 fx_RX9_25 (by first | rfl | assumption) (by first | rfl | assumption) ?_
      refine aw_iconst dX9_settled_26 (by decide) (by decide) ?_
      refine aw_aload_n dX9_settled_27 rfl ?_
      refine aw_getR1 dX9_settled_28 fx_RX9_31 (by first | rfl | assumption) (by first | rfl | assumption) ?_
      refine aw_iconst dX9_settled_31 (by decide) (by decide) ?_
      refine aw_s4q dX9_settled_32 sl_RX9_145 (Nat.le_of_ble_eq_true rfl) (Nat.le_of_ble_eq_true rfl) (Nat.le_of_ble_eq_true rfl) (Nat.le_refl _) (Nat.le_refl _) (c_X9_copies (Nx := 53) (Ny := 53) rfl rfl (by decide) (by omega) (by omega) (by omega) (by omega) (by decide) (by decide) (by decide)) ?_
      intro v t' h1 hq
      obtain ⟨rfl, rfl, k1, k2, k3⟩ := hq
      have ev1 := ev_copy ev (by omega) k1
      refine aw_aload_n dX9_settled_35 rfl ?_
      refine aw_aload_n dX9_settled_36 rfl ?_
      refine aw_getR1 dX9_settled_37 fx_RX9_31 (by first | rfl | assumption) (by first | rfl | assumption) ?_
      refine aw_v1q dX9_settled_40 vl_RX9_198 (by first | rfl | assumption) (Nat.le_of_ble_eq_true rfl) (Nat.le_of_ble_eq_true rfl) (Nat.le_of_ble_eq_true rfl) (Nat.le_refl _) (Nat.le_refl _) (c_X9_settles (a := 381) rfl (Or.inr (Or.inr rfl)) ev1 hL.1 hL.2.1 (by omega)) ?_
      intro v t' h2 hq
      obtain ⟨rfl, rfl, s1, s2, s3, s4, s5⟩ := hq
      have f2 : SM h h2 := (sm_of (fun c _ _ c1 _ _ _ => k3 c c1)).tr (sm_FM (Or.inr rfl) s5)
      have a00 : addR (settles false (s_liv σ)).1 (settles false (s_liv σ)).2.1 0 0 = s_liv σ 0 0 := by rw [addR_0, hok.2.2.2.2.2]
      refine aw_iload_n dX9_settled_43 rfl ?_
      refine aw_table 111 dX9_settled_44 rfl (fun c44 => ?_) (fun g44a g44b => ?_)
      · refine aw_aload_n dX9_settled_111 rfl ?_
        refine aw_aload_n dX9_settled_112 rfl ?_
        refine aw_getR1 dX9_settled_113 fx_RX9_31 (by first | rfl | assumption) (by first | rfl | assumption) ?_
        refine aw_v1q dX9_settled_116 vl_RX9_179 (by first | rfl | assumption) (Nat.le_of_ble_eq_true rfl) (Nat.le_of_ble_eq_true rfl) (Nat.le_of_ble_eq_true rfl) (Nat.le_refl _) (Nat.le_refl _) (c_X9_isSettled (a := 381) rfl (by decide) s1 (addR_wf hok.1)) ?_
        intro v t' h3 hq
        obtain ⟨rfl, rfl, u1⟩ := hq
        rw [stlA]
        have f3 : SM h h3 := f2.tr (sm_of (fun c _ _ _ c4 _ _ => u1 c c4))
        refine aw_if_eq 126 dX9_settled_119 rfl (fun c119 => ?_) (fun c119 => ?_)
        · refine aw_iconst dX9_settled_126 (by decide) (by decide) ?_
          refine aw_ireturn dX9_settled_127 rfl (Nat.le_refl _) (Nat.le_refl _) ?_
          refine ⟨am_ri ?_, rfl, f3.ms hM, fun c hc => f3.1 c (by omega)⟩
          show _ = stdv _ _
          unfold stdv
          rw [if_neg (by omega), if_neg (by omega), if_neg (by omega), if_neg (by omega), if_neg (by omega), settles_at]
          first | (rw [if_pos (by by_cases y : stl (settles false (s_liv σ)).1 = true; exact y; rw [if_neg y] at c119; omega)]; done) | (rw [if_neg (by intro y; rw [if_pos y] at c119; omega)]; done)
        · refine aw_iconst dX9_settled_122 (by decide) (by decide) ?_
          refine aw_goto 127 dX9_settled_123 rfl ?_
          refine aw_ireturn dX9_settled_127 rfl (Nat.le_refl _) (Nat.le_refl _) ?_
          refine ⟨am_ri ?_, rfl, f3.ms hM, fun c hc => f3.1 c (by omega)⟩
          show _ = stdv _ _
          unfold stdv
          rw [if_neg (by omega), if_neg (by omega), if_neg (by omega), if_neg (by omega), if_neg (by omega), settles_at]
          first | (rw [if_pos (by by_cases y : stl (settles false (s_liv σ)).1 = true; exact y; rw [if_neg y] at c119; omega)]; done) | (rw [if_neg (by intro y; rw [if_pos y] at c119; omega)]; done)
      · rcases tcs_0_4 g44a g44b with c44 | c44 | c44 | c44 | c44
        · refine aw_tableIn 80 dX9_settled_44 g44a g44b (by rw [c44]; rfl) rfl ?_
          refine aw_aload_n dX9_settled_80 rfl ?_
          refine aw_getI dX9_settled_81 fx_RX9_166 (by first | rfl | assumption) ?_
          refine aw_ireturn dX9_settled_84 rfl (Nat.le_refl _) (Nat.le_refl _) ?_
          exact ⟨am_ri (by show _ = stdv _ _; unfold stdv; rw [if_pos c44]; exact s2), rfl, f2.ms hM, fun c hc => f2.1 c (by omega)⟩
        · refine aw_tableIn 85 dX9_settled_44 g44a g44b (by rw [c44]; rfl) rfl ?_
          refine aw_aload_n dX9_settled_85 rfl ?_
          refine aw_getI dX9_settled_86 fx_RX9_169 (by first | rfl | assumption) ?_
          refine aw_ireturn dX9_settled_89 rfl (Nat.le_refl _) (Nat.le_refl _) ?_
          exact ⟨am_ri (by show _ = stdv _ _; unfold stdv; rw [if_neg (by omega), if_pos c44]; exact s3), rfl, f2.ms hM, fun c hc => f2.1 c (by omega)⟩
        · refine aw_tableIn 90 dX9_settled_44 g44a g44b (by rw [c44]; rfl) rfl ?_
          refine aw_aload_n dX9_settled_90 rfl ?_
          refine aw_getI dX9_settled_91 fx_RX9_172 (by first | rfl | assumption) ?_
          refine aw_ireturn dX9_settled_94 rfl (Nat.le_refl _) (Nat.le_refl _) ?_
          exact ⟨am_ri (by show _ = stdv _ _; unfold stdv; rw [if_neg (by omega), if_neg (by omega), if_pos c44]; exact s4), rfl, f2.ms hM, fun c hc => f2.1 c (by omega)⟩
        · refine aw_tableIn 95 dX9_settled_44 g44a g44b (by rw [c44]; rfl) rfl ?_
          refine aw_aload_n dX9_settled_95 rfl ?_
          refine aw_getR1 dX9_settled_96 fx_RX9_31 (by first | rfl | assumption) (by first | rfl | assumption) ?_
          refine aw_s1i dX9_settled_99 sl_RX9_209 (Nat.le_of_ble_eq_true rfl) (Nat.le_of_ble_eq_true rfl) (Nat.le_of_ble_eq_true rfl) (Nat.le_refl _) (Nat.le_refl _) (c_X9_frozenOnes (a := 381) rfl s1 (by omega) (by omega)) ?_
          refine aw_ireturn dX9_settled_102 rfl (Nat.le_refl _) (Nat.le_refl _) ?_
          exact ⟨am_ri (by show _ = stdv _ _; unfold stdv; rw [if_neg (by omega), if_neg (by omega), if_neg (by omega), if_pos c44]; unfold fzs; rw [addR_0, addR_j (j := 4) (by decide)]), rfl, f2.ms hM, fun c hc => f2.1 c (by omega)⟩
        · refine aw_tableIn 103 dX9_settled_44 g44a g44b (by rw [c44]; rfl) rfl ?_
          refine aw_aload_n dX9_settled_103 rfl ?_
          refine aw_getR1 dX9_settled_104 fx_RX9_31 (by first | rfl | assumption) (by first | rfl | assumption) ?_
          refine aw_s1i dX9_settled_107 sl_RX9_222 (Nat.le_of_ble_eq_true rfl) (Nat.le_of_ble_eq_true rfl) (Nat.le_of_ble_eq_true rfl) (Nat.le_refl _) (Nat.le_refl _) (c_X9_last (a := 381) rfl s1 (by omega) (by omega)) ?_
          refine aw_ireturn dX9_settled_110 rfl (Nat.le_refl _) (Nat.le_refl _) ?_
          exact ⟨am_ri (by show _ = stdv _ _; unfold stdv; rw [if_neg (by omega), if_neg (by omega), if_neg (by omega), if_neg (by omega), if_pos c44]; unfold lastG; rw [addR_0, addR_j (j := 3) (by decide)]), rfl, f2.ms hM, fun c hc => f2.1 c (by omega)⟩
    · refine aw_ldc (n := -1000001) dX9_settled_19 kc_RX9_70 (by decide) ?_
      refine aw_ireturn dX9_settled_21 rfl (Nat.le_refl _) (Nat.le_refl _) ?_
      rw [if_neg (by omega), if_pos (by omega)]
      exact ⟨rfl, rfl, hM, fun _ _ => rfl⟩
  · refine aw_ldc (n := -1000002) dX9_settled_7 kc_RX9_194 (by decide) ?_
    refine aw_ireturn dX9_settled_9 rfl (Nat.le_refl _) (Nat.le_refl _) ?_
    rw [if_pos (by omega)]
    exact ⟨rfl, rfl, hM, fun _ _ => rfl⟩
theorem c_X9_ends {i : Int} (hM : MS h σ) (hW : WFst σ) : Sem M_X9_ends [vR 373, vI i] (TT e q n L) h 0 0 (PM (sp_ends σ i) h (TT e q n L)) := by
  unfold sp_ends
  have ev : mV h 379 0 = s_liv σ := hM.2.2.2.2.1
  have ec : h 379 3 = s_liv σ 0 0 := mA_c ev
  have ws := wf_sh hW.2.2.2.1
  refine sem_intro (by decide) rfl (Nat.le_of_ble_eq_true rfl) rfl ?_
  refine aw_aload_n dX9_ends_0 rfl ?_
  refine aw_iload_n dX9_ends_1 rfl ?_
  refine aw_v1i dX9_ends_2 vl_RX9_202 (by first | rfl | assumption) (Nat.le_of_ble_eq_true rfl) (Nat.le_of_ble_eq_true rfl) (Nat.le_of_ble_eq_true rfl) (Nat.le_refl _) (Nat.le_refl _) (c_X9_isItem (by omega) (by omega)) ?_
  refine aw_ifB_ne 11 dX9_ends_5 rfl (fun c5 => ?_) (fun c5 => ?_)
  · have hL := wf_liv hW.2.2.2.1 (by omega)
    have hok := settles_ok (stop := false) hL.1
    rw [if_neg (by omega)]
    refine aw_aload_n dX9_ends_11 rfl ?_
    refine aw_getR1 dX9_ends_12 fx_RX9_25 (by first | rfl | assumption) (by first | rfl | assumption) ?_
    refine aw_iconst dX9_ends_15 (by decide) (by decide) ?_
    refine aw_aload_n dX9_ends_16 rfl ?_
    refine aw_getR1 dX9_ends_17 fx_RX9_31 (by first | rfl | assumption) (by first | rfl | assumption) ?_
    refine aw_iconst dX9_ends_20 (by decide) (by decide) ?_
    refine aw_s4q dX9_ends_21 sl_RX9_145 (Nat.le_of_ble_eq_true rfl) (Nat.le_of_ble_eq_true rfl) (Nat.le_of_ble_eq_true rfl) (Nat.le_refl _) (Nat.le_refl _) (c_X9_copies (Nx := 53) (Ny := 53) rfl rfl (by decide) (by omega) (by omega) (by omega) (by omega) (by decide) (by decide) (by decide)) ?_
    intro v t' h1 hq
    obtain ⟨rfl, rfl, k1, k2, k3⟩ := hq
    have ev1 := ev_copy ev (by omega) k1
    refine aw_aload_n dX9_ends_24 rfl ?_
    refine aw_aload_n dX9_ends_25 rfl ?_
    refine aw_getR1 dX9_ends_26 fx_RX9_31 (by first | rfl | assumption) (by first | rfl | assumption) ?_
    refine aw_v1q dX9_ends_29 vl_RX9_198 (by first | rfl | assumption) (Nat.le_of_ble_eq_true rfl) (Nat.le_of_ble_eq_true rfl) (Nat.le_of_ble_eq_true rfl) (Nat.le_refl _) (Nat.le_refl _) (c_X9_settles (a := 381) rfl (Or.inr (Or.inr rfl)) ev1 hL.1 hL.2.1 (by omega)) ?_
    intro v t' h2 hq
    obtain ⟨rfl, rfl, s1, s2, s3, s4, s5⟩ := hq
    have f2 : SM h h2 := (sm_of (fun c _ _ c1 _ _ _ => k3 c c1)).tr (sm_FM (Or.inr rfl) s5)
    have a00 : addR (settles false (s_liv σ)).1 (settles false (s_liv σ)).2.1 0 0 = s_liv σ 0 0 := by rw [addR_0, hok.2.2.2.2.2]
    have e3 := mA3 (k := i) s1 (by omega) (by omega)
    rw [addRj (by decide)] at e3
    refine aw_aload_n dX9_ends_32 rfl ?_
    refine aw_getR1 dX9_ends_33 fx_RX9_31 (by first | rfl | assumption) (by first | rfl | assumption) ?_
    refine aw_iconst dX9_ends_36 (by decide) (by decide) ?_
    refine aw_iconst dX9_ends_37 (by decide) (by decide) ?_
    refine aw_iload_n dX9_ends_38 rfl ?_
    refine aw_imul dX9_ends_39 (by omega) (by omega) ?_
    refine aw_iadd dX9_ends_40 (by omega) (by omega) ?_
    refine aw_iconst dX9_ends_41 (by decide) (by decide) ?_
    refine aw_iadd dX9_ends_42 (by omega) (by omega) ?_
    refine aw_iaload dX9_ends_43 (by first | rfl | assumption) (by omega) (by omega) ?_
    refine aw_ireturn dX9_ends_44 rfl (Nat.le_refl _) (Nat.le_refl _) ?_
    exact ⟨am_ri e3, rfl, f2.ms hM, fun c hc => f2.1 c (by omega)⟩
  · refine aw_ldc (n := -1000001) dX9_ends_8 kc_RX9_70 (by decide) ?_
    refine aw_ireturn dX9_ends_10 rfl (Nat.le_refl _) (Nat.le_refl _) ?_
    rw [if_pos (by omega)]
    exact ⟨rfl, rfl, hM, fun _ _ => rfl⟩
end MON
