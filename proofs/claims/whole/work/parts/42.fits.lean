def sp_behind (σ : ST) (i k : Int) : Int × ST := if ¬ (0 ≤ i ∧ i < s_liv σ 0 0) ∨ k < 0 ∨ 60 < k then (-1000001, σ) else (rndN (s_liv σ) k.toNat 3 i, σ)
def sp_lies (σ : ST) : Int × ST := if s_liv σ 0 0 = 0 then (-1000002, σ) else (bset (lieP (s_liv σ)) (s_liv σ 0 0).toNat, σ)
def sp_moves (σ : ST) (i : Int) : Int × ST := if ¬ (0 ≤ i ∧ i < s_liv σ 0 0) ∨ s_liv σ 1 i = 5 then (-1000001, σ) else (bset (movP (s_liv σ) i) (s_liv σ 0 0).toNat, σ)
def sp_room (σ : ST) (i : Int) : Int × ST := if ¬ (0 ≤ i ∧ i < s_liv σ 0 0) ∨ s_liv σ 1 i ≠ 4 then (-1000001, σ) else (widS (s_liv σ) i (s_liv σ 2 i) (lastW (s_liv σ) i (s_liv σ 2 i)) (20 - s_liv σ 2 i).toNat, σ)
def sp_restless (σ : ST) : Int × ST := if s_liv σ 0 0 = 0 then (-1000002, σ) else (resS (s_liv σ) 87 1, σ)
section PUB
variable {e q n L : Nat} {h : Mem} {σ : ST}
theorem c_X8_behind {i k : Int} (hC : CS h σ) (hW : WFst σ) (hro : RO h) : Sem M_X8_behind [vR 0, vI i, vI k] (TT e q n L) h 0 0 (PC (sp_behind σ i k) h (TT e q n L)) := by
  have eV : cV h 16 = s_liv σ := hC.2.2.2.2.1
  have e0 : h 16 0 = s_liv σ 0 0 := by rw [← eV, cVc]
  unfold sp_behind
  refine sem_intro (by decide) rfl (Nat.le_of_ble_eq_true rfl) rfl ?_
  refine aw_aload_n dX8_behind_0 rfl ?_
  refine aw_getR1 dX8_behind_1 fx_RX8_30 (by first | rfl | assumption) (by first | rfl | assumption) ?_
  refine aw_iload_n dX8_behind_4 rfl ?_
  refine aw_v1i dX8_behind_5 vl_RX8_162 (by first | rfl | assumption) (Nat.le_of_ble_eq_true rfl) (Nat.le_of_ble_eq_true rfl) (Nat.le_of_ble_eq_true rfl) (Nat.le_refl _) (Nat.le_refl _) (c_X7_holds (by first | assumption | exact sh_16 | exact sh_21)) ?_
  refine aw_ifB_eq 21 dX8_behind_8 rfl (fun c8 => ?_) (fun c8 => ?_)
  · refine aw_ldc (n := -1000001) dX8_behind_21 kc_RX8_80 (by decide) ?_
    refine aw_ireturn dX8_behind_23 rfl (Nat.le_refl _) (Nat.le_refl _) ?_
    rw [if_pos (by omega)]
    exact ⟨rfl, rfl, hC, fun _ _ => rfl⟩
  · refine aw_iload_n dX8_behind_11 rfl ?_
    refine aw_if_lt 21 dX8_behind_12 rfl (fun c12 => ?_) (fun c12 => ?_)
    · refine aw_ldc (n := -1000001) dX8_behind_21 kc_RX8_80 (by decide) ?_
      refine aw_ireturn dX8_behind_23 rfl (Nat.le_refl _) (Nat.le_refl _) ?_
      rw [if_pos (by omega)]
      exact ⟨rfl, rfl, hC, fun _ _ => rfl⟩
    · refine aw_iload_n dX8_behind_15 rfl ?_
      refine aw_bipush dX8_behind_16 (by decide) (by decide) ?_
      refine aw_icmp_le 24 dX8_behind_18 rfl (fun c18 => ?_) (fun c18 => ?_)
      · have hL := wf_liv hW.2.2.2.1 (by omega)
        refine aw_aload_n dX8_behind_24 rfl ?_
        refine aw_getR1 dX8_behind_25 fx_RX8_49 (by first | rfl | assumption) (by first | rfl | assumption) ?_
        refine aw_iload_n dX8_behind_28 rfl ?_
        refine aw_iload_n dX8_behind_29 rfl ?_
        refine aw_v2q dX8_behind_30 vl_RX8_233 (by first | rfl | assumption) (Nat.le_of_ble_eq_true rfl) (Nat.le_of_ble_eq_true rfl) (Nat.le_of_ble_eq_true rfl) (Nat.le_refl _) (Nat.le_refl _) (c_X1_guessBehind hro (by rw [eV]; exact hL.1) c8.1 c8.2 (by omega) (by omega)) ?_
        intro v t' h1 hq
        obtain ⟨rfl, rfl, f1⟩ := hq
        refine aw_ireturn dX8_behind_33 rfl (Nat.le_refl _) (Nat.le_refl _) ?_
        rw [if_neg (by omega), eV]
        exact ⟨rfl, rfl, f1.cs hC, fun c hc => f1 c (by omega)⟩
      · refine aw_ldc (n := -1000001) dX8_behind_21 kc_RX8_80 (by decide) ?_
        refine aw_ireturn dX8_behind_23 rfl (Nat.le_refl _) (Nat.le_refl _) ?_
        rw [if_pos (by omega)]
        exact ⟨rfl, rfl, hC, fun _ _ => rfl⟩
theorem c_X8_lies (hC : CS h σ) (hW : WFst σ) (hro : RO h) : Sem M_X8_lies [vR 0] (TT e q n L) h 0 0 (PC (sp_lies σ) h (TT e q n L)) := by
  have eV : cV h 16 = s_liv σ := hC.2.2.2.2.1
  have e0 : h 16 0 = s_liv σ 0 0 := by rw [← eV, cVc]
  unfold sp_lies
  refine sem_intro (by decide) rfl (Nat.le_of_ble_eq_true rfl) rfl ?_
  refine aw_aload_n dX8_lies_0 rfl ?_
  refine aw_v0i dX8_lies_1 vl_RX8_142 (by first | rfl | assumption) (Nat.le_of_ble_eq_true rfl) (Nat.le_of_ble_eq_true rfl) (Nat.le_of_ble_eq_true rfl) (Nat.le_refl _) (Nat.le_refl _) (c_X8_isWithoutSheet) ?_
  refine aw_ifB_eq 12 dX8_lies_4 rfl (fun c4 => ?_) (fun c4 => ?_)
  · have hL := wf_liv hW.2.2.2.1 (by omega)
    refine aw_aload_n dX8_lies_12 rfl ?_
    refine aw_getR1 dX8_lies_13 fx_RX8_49 (by first | rfl | assumption) (by first | rfl | assumption) ?_
    refine aw_v0q dX8_lies_16 vl_RX8_236 (by first | rfl | assumption) (Nat.le_of_ble_eq_true rfl) (Nat.le_of_ble_eq_true rfl) (Nat.le_of_ble_eq_true rfl) (Nat.le_refl _) (Nat.le_refl _) (c_X1_lying hro (by rw [eV]; exact hL.1)) ?_
    intro v t' h1 hq
    obtain ⟨rfl, rfl, f1⟩ := hq
    refine aw_ireturn dX8_lies_19 rfl (Nat.le_refl _) (Nat.le_refl _) ?_
    rw [if_neg (by omega), eV, e0]
    exact ⟨rfl, rfl, f1.cs hC, fun c hc => f1 c (by omega)⟩
  · refine aw_ldc (n := -1000002) dX8_lies_7 kc_RX8_146 (by decide) ?_
    refine aw_goto 19 dX8_lies_9 rfl ?_
    refine aw_ireturn dX8_lies_19 rfl (Nat.le_refl _) (Nat.le_refl _) ?_
    rw [if_pos (by omega)]
    exact ⟨rfl, rfl, hC, fun _ _ => rfl⟩
theorem c_X8_moves {i : Int} (hC : CS h σ) (hW : WFst σ) (hro : RO h) : Sem M_X8_moves [vR 0, vI i] (TT e q n L) h 0 0 (PC (sp_moves σ i) h (TT e q n L)) := by
  have eV : cV h 16 = s_liv σ := hC.2.2.2.2.1
  have e0 : h 16 0 = s_liv σ 0 0 := by rw [← eV, cVc]
  have hcn := wf_cnt hW.2.2.2.1
  have k1 : 0 ≤ i ∧ i < h 16 0 → h (16 + 1) i = s_liv σ 1 i := fun z => by rw [← eV, cV1 z.1 z.2]
  unfold sp_moves
  refine sem_intro (by decide) rfl (Nat.le_of_ble_eq_true rfl) rfl ?_
  refine aw_aload_n dX8_moves_0 rfl ?_
  refine aw_getR1 dX8_moves_1 fx_RX8_30 (by first | rfl | assumption) (by first | rfl | assumption) ?_
  refine aw_iload_n dX8_moves_4 rfl ?_
  refine aw_v1i dX8_moves_5 vl_RX8_162 (by first | rfl | assumption) (Nat.le_of_ble_eq_true rfl) (Nat.le_of_ble_eq_true rfl) (Nat.le_of_ble_eq_true rfl) (Nat.le_refl _) (Nat.le_refl _) (c_X7_holds (by first | assumption | exact sh_16 | exact sh_21)) ?_
  refine aw_ifB_eq 24 dX8_moves_8 rfl (fun c8 => ?_) (fun c8 => ?_)
  · refine aw_ldc (n := -1000001) dX8_moves_24 kc_RX8_80 (by decide) ?_
    refine aw_ireturn dX8_moves_26 rfl (Nat.le_refl _) (Nat.le_refl _) ?_
    first | rw [if_pos (by omega)] | (have k2 := k1 c8; rw [if_pos (by omega)])
    exact ⟨rfl, rfl, hC, fun _ _ => rfl⟩
  · refine aw_aload_n dX8_moves_11 rfl ?_
    refine aw_getR1 dX8_moves_12 fx_RX8_30 (by first | rfl | assumption) (by first | rfl | assumption) ?_
    refine aw_getR1 dX8_moves_15 fx_RX8_165 (by first | rfl | assumption) (by first | rfl | assumption) ?_
    refine aw_iload_n dX8_moves_18 rfl ?_
    refine aw_iaload dX8_moves_19 (by first | rfl | assumption) (by omega) (by omega) ?_
    refine aw_iconst dX8_moves_20 (by decide) (by decide) ?_
    refine aw_icmp_ne 27 dX8_moves_21 rfl (fun c21 => ?_) (fun c21 => ?_)
    · have hL := wf_liv hW.2.2.2.1 (by omega)
      have k2 := k1 c8
      refine aw_aload_n dX8_moves_27 rfl ?_
      refine aw_getR1 dX8_moves_28 fx_RX8_49 (by first | rfl | assumption) (by first | rfl | assumption) ?_
      refine aw_iload_n dX8_moves_31 rfl ?_
      refine aw_v1q dX8_moves_32 vl_RX8_252 (by first | rfl | assumption) (Nat.le_of_ble_eq_true rfl) (Nat.le_of_ble_eq_true rfl) (Nat.le_of_ble_eq_true rfl) (Nat.le_refl _) (Nat.le_refl _) (c_X1_movedBy hro (by rw [eV]; exact hL.1)) ?_
      intro v t' h1 hq
      obtain ⟨rfl, rfl, f1⟩ := hq
      refine aw_ireturn dX8_moves_35 rfl (Nat.le_refl _) (Nat.le_refl _) ?_
      rw [if_neg (by omega), eV, e0]
      exact ⟨rfl, rfl, f1.cs hC, fun c hc => f1 c (by omega)⟩
    · refine aw_ldc (n := -1000001) dX8_moves_24 kc_RX8_80 (by decide) ?_
      refine aw_ireturn dX8_moves_26 rfl (Nat.le_refl _) (Nat.le_refl _) ?_
      first | rw [if_pos (by omega)] | (have k2 := k1 c8; rw [if_pos (by omega)])
      exact ⟨rfl, rfl, hC, fun _ _ => rfl⟩
theorem c_X8_room {i : Int} (hC : CS h σ) (hW : WFst σ) (hro : RO h) : Sem M_X8_room [vR 0, vI i] (TT e q n L) h 0 0 (PC (sp_room σ i) h (TT e q n L)) := by
  have eV : cV h 16 = s_liv σ := hC.2.2.2.2.1
  have e0 : h 16 0 = s_liv σ 0 0 := by rw [← eV, cVc]
  have hcn := wf_cnt hW.2.2.2.1
  have k1 : 0 ≤ i ∧ i < h 16 0 → h (16 + 1) i = s_liv σ 1 i ∧ h 18 i = s_liv σ 2 i := fun z => ⟨by rw [← eV, cV1 z.1 z.2], by rw [← eV, cV2 z.1 z.2]⟩
  unfold sp_room
  refine sem_intro (by decide) rfl (Nat.le_of_ble_eq_true rfl) rfl ?_
  refine aw_aload_n dX8_room_0 rfl ?_
  refine aw_getR1 dX8_room_1 fx_RX8_30 (by first | rfl | assumption) (by first | rfl | assumption) ?_
  refine aw_iload_n dX8_room_4 rfl ?_
  refine aw_v1i dX8_room_5 vl_RX8_162 (by first | rfl | assumption) (Nat.le_of_ble_eq_true rfl) (Nat.le_of_ble_eq_true rfl) (Nat.le_of_ble_eq_true rfl) (Nat.le_refl _) (Nat.le_refl _) (c_X7_holds (by first | assumption | exact sh_16 | exact sh_21)) ?_
  refine aw_ifB_eq 24 dX8_room_8 rfl (fun c8 => ?_) (fun c8 => ?_)
  · refine aw_ldc (n := -1000001) dX8_room_24 kc_RX8_80 (by decide) ?_
    refine aw_ireturn dX8_room_26 rfl (Nat.le_refl _) (Nat.le_refl _) ?_
    first | rw [if_pos (by omega)] | (have k2 := k1 c8; rw [if_pos (by omega)])
    exact ⟨rfl, rfl, hC, fun _ _ => rfl⟩
  · refine aw_aload_n dX8_room_11 rfl ?_
    refine aw_getR1 dX8_room_12 fx_RX8_30 (by first | rfl | assumption) (by first | rfl | assumption) ?_
    refine aw_getR1 dX8_room_15 fx_RX8_165 (by first | rfl | assumption) (by first | rfl | assumption) ?_
    refine aw_iload_n dX8_room_18 rfl ?_
    refine aw_iaload dX8_room_19 (by first | rfl | assumption) (by omega) (by omega) ?_
    refine aw_iconst dX8_room_20 (by decide) (by decide) ?_
    refine aw_icmp_eq 27 dX8_room_21 rfl (fun c21 => ?_) (fun c21 => ?_)
    · have hL := wf_liv hW.2.2.2.1 (by omega)
      have k2 := k1 c8
      refine aw_aload_n dX8_room_27 rfl ?_
      refine aw_getR1 dX8_room_28 fx_RX8_49 (by first | rfl | assumption) (by first | rfl | assumption) ?_
      refine aw_iload_n dX8_room_31 rfl ?_
      refine aw_v1q dX8_room_32 vl_RX8_255 (by first | rfl | assumption) (Nat.le_of_ble_eq_true rfl) (Nat.le_of_ble_eq_true rfl) (Nat.le_of_ble_eq_true rfl) (Nat.le_refl _) (Nat.le_refl _) (c_X1_widestOf hro (by rw [eV]; exact hL.1) c8.1 c8.2 c21) ?_
      intro v t' h1 hq
      obtain ⟨rfl, rfl, f1⟩ := hq
      refine aw_ireturn dX8_room_35 rfl (Nat.le_refl _) (Nat.le_refl _) ?_
      rw [if_neg (by omega), eV, k2.2]
      exact ⟨rfl, rfl, f1.cs hC, fun c hc => f1 c (by omega)⟩
    · refine aw_ldc (n := -1000001) dX8_room_24 kc_RX8_80 (by decide) ?_
      refine aw_ireturn dX8_room_26 rfl (Nat.le_refl _) (Nat.le_refl _) ?_
      first | rw [if_pos (by omega)] | (have k2 := k1 c8; rw [if_pos (by omega)])
      exact ⟨rfl, rfl, hC, fun _ _ => rfl⟩
theorem c_X8_restless (hC : CS h σ) (hW : WFst σ) (hro : RO h) : Sem M_X8_restless [vR 0] (TT e q n L) h 0 0 (PC (sp_restless σ) h (TT e q n L)) := by
  have eV : cV h 16 = s_liv σ := hC.2.2.2.2.1
  have e0 : h 16 0 = s_liv σ 0 0 := by rw [← eV, cVc]
  unfold sp_restless
  refine sem_intro (by decide) rfl (Nat.le_of_ble_eq_true rfl) rfl ?_
  refine aw_aload_n dX8_restless_0 rfl ?_
  refine aw_v0i dX8_restless_1 vl_RX8_142 (by first | rfl | assumption) (Nat.le_of_ble_eq_true rfl) (Nat.le_of_ble_eq_true rfl) (Nat.le_of_ble_eq_true rfl) (Nat.le_refl _) (Nat.le_refl _) (c_X8_isWithoutSheet) ?_
  refine aw_ifB_eq 12 dX8_restless_4 rfl (fun c4 => ?_) (fun c4 => ?_)
  · have hL := wf_liv hW.2.2.2.1 (by omega)
    refine aw_aload_n dX8_restless_12 rfl ?_
    refine aw_getR1 dX8_restless_13 fx_RX8_49 (by first | rfl | assumption) (by first | rfl | assumption) ?_
    refine aw_v0q dX8_restless_16 vl_RX8_258 (by first | rfl | assumption) (Nat.le_of_ble_eq_true rfl) (Nat.le_of_ble_eq_true rfl) (Nat.le_of_ble_eq_true rfl) (Nat.le_refl _) (Nat.le_refl _) (c_X1_restlessFirst hro (by rw [eV]; exact hL.1)) ?_
    intro v t' h1 hq
    obtain ⟨rfl, rfl, f1⟩ := hq
    refine aw_ireturn dX8_restless_19 rfl (Nat.le_refl _) (Nat.le_refl _) ?_
    rw [if_neg (by omega), eV]
    exact ⟨rfl, rfl, f1.cs hC, fun c hc => f1 c (by omega)⟩
  · refine aw_ldc (n := -1000002) dX8_restless_7 kc_RX8_146 (by decide) ?_
    refine aw_goto 19 dX8_restless_9 rfl ?_
    refine aw_ireturn dX8_restless_19 rfl (Nat.le_refl _) (Nat.le_refl _) ?_
    rw [if_pos (by omega)]
    exact ⟨rfl, rfl, hC, fun _ _ => rfl⟩
end PUB
/-! fits -/
def cmS (V : VW) (i : Int) (g : Int → Int) : Nat → Bool
  | 0 => true
  | k + 1 => cmS V i g k && decide (rndN V (k + 1) 3 i = g k)
theorem cmS_le {V : VW} {i : Int} {g : Int → Int} {k : Nat} : ∀ {N : Nat}, k ≤ N → cmS V i g k = false → cmS V i g N = false
  | 0, h1, h2 => by rw [show k = 0 by omega] at h2; exact h2
  | N + 1, h1, h2 => by
    by_cases e : k = N + 1
    · rw [← e]; exact h2
    · unfold cmS; rw [cmS_le (N := N) (by omega) h2]; rfl
theorem setV1_wf {V : VW} {i x : Int} (hV : WFv V) (hx0 : 1 ≤ x) (hx1 : x ≤ 5) (hk : x ≤ 3 → 0 ≤ V 2 i ∧ V 2 i < V 0 0) (hk4 : x = 4 → 1 ≤ V 2 i ∧ V 2 i ≤ 20) : WFv (setV V 1 i x) := by
  obtain ⟨c1, c2, c3, c4, c5, c6, c7, c8, hi⟩ := hV
  refine ⟨c1, c2, c3, c4, c5, c6, c7, c8, fun k h0 h1 => ?_⟩
  obtain ⟨k1, k2, k3, k4, k5, k6, k7, k8⟩ := hi k h0 h1
  have e : setV V 1 i x 1 k = if k = i then x else V 1 k := by
    unfold setV
    by_cases z : k = i
    · rw [if_pos ⟨rfl, z⟩, if_pos z]
    · rw [if_neg (by omega), if_neg z]
  rw [e]
  by_cases zz : k = i
  · rw [if_pos zz]
    exact ⟨hx0, hx1, fun z => zz ▸ hk z, fun z => zz ▸ hk4 z, k5, k6, k7, k8⟩
  · rw [if_neg zz]
    exact ⟨k1, k2, k3, k4, k5, k6, k7, k8⟩
def SC2 (h h' : Mem) : Prop := ∀ c, c < 21 ∨ 231 < c → h' c = h c
section FIT
variable {q n L : Nat} {h : Mem}
set_option maxHeartbeats 1000000 in
theorem l_comes {Q : Option AV → Tp → Mem → Prop} {V : VW} {it fr : Int} {N ex : Nat} {g : Int → Int} (hV : WFv V) (hro : RO h) (hex : (TT ex q n L).2.1 ex = (20, 40)) (hxl : ex < 21) (h5 : h 232 5 = it) (h7 : h 232 7 = fr) (h8 : h 232 8 = (N : Int)) (i0 : 0 ≤ it) (i1 : it < V 0 0) (f0 : 0 ≤ fr) (fN : fr + N ≤ 40) (hg : ∀ k : Nat, k < N → h ex (fr + k) = g k)
    (hk : ∀ hh : Mem, SC2 h hh → Q (some (vI (if cmS V it g N = true then 1 else 0))) (TT ex q n L) hh) :
    ∀ (m : Nat) (k : Nat) (hh : Mem), k + m = N → SC2 h hh → cV hh 21 = rndN V k → cmS V it g k = true → AW M_X1_comesAsExpected 0 0 Q 2 [some (vR 232), some (vI k), none] [] (TT ex q n L) hh 0 0 := by
  have w2 := hV.2.1
  intro m
  induction m with
  | zero =>
    intro k hh hi hf hc hm
    have ek : k = N := by omega
    subst ek
    have z := hk hh hf
    rw [if_pos hm] at z
    have e8 : hh 232 8 = (k : Int) := by rw [hf 232 (by decide)]; exact h8
    refine aw_iload_n dX1_comesAsExpected_2 rfl ?_
    refine aw_aload_n dX1_comesAsExpected_3 rfl ?_
    refine aw_getI dX1_comesAsExpected_4 fx_RX1_108 (by first | rfl | assumption) ?_
    refine aw_icmp_ge 71 dX1_comesAsExpected_7 rfl (fun c7 => ?_) (fun c7 => ?_)
    · refine aw_iconst dX1_comesAsExpected_71 (by decide) (by decide) ?_
      refine aw_zreturn dX1_comesAsExpected_72 rfl (Nat.le_refl _) (Nat.le_refl _) (by first | decide | omega) (by first | decide | omega) ?_
      exact z
    · exfalso; omega
  | succ m ih =>
    intro k hh hi hf hc hm
    have e8 : hh 232 8 = (N : Int) := by rw [hf 232 (by decide)]; exact h8
    have e7 : hh 232 7 = fr := by rw [hf 232 (by decide)]; exact h7
    have hro2 : RO hh := fun j j0 j1 => by rw [hf _ (by decide)]; exact hro j j0 j1
    have em : cmS V it g (k + 1) = (cmS V it g k && decide (rndN V (k + 1) 3 it = g k)) := rfl
    rw [hm, Bool.true_and] at em
    refine aw_iload_n dX1_comesAsExpected_2 rfl ?_
    refine aw_aload_n dX1_comesAsExpected_3 rfl ?_
    refine aw_getI dX1_comesAsExpected_4 fx_RX1_108 (by first | rfl | assumption) ?_
    refine aw_icmp_ge 71 dX1_comesAsExpected_7 rfl (fun c7 => ?_) (fun c7 => ?_)
    · exfalso; omega
    · refine aw_aload_n dX1_comesAsExpected_10 rfl ?_
      refine aw_getI dX1_comesAsExpected_11 fx_RX1_105 (by first | rfl | assumption) ?_
      refine aw_iload_n dX1_comesAsExpected_14 rfl ?_
      refine aw_iadd dX1_comesAsExpected_15 (by omega) (by omega) ?_
      refine aw_istore_n (ls' := [_, _, _]) dX1_comesAsExpected_16 (by decide) rfl ?_
      refine aw_aload_n dX1_comesAsExpected_17 rfl ?_
      refine aw_getR1 dX1_comesAsExpected_18 fx_RX1_29 (by first | rfl | assumption) (by first | rfl | assumption) ?_
      refine aw_aload_n dX1_comesAsExpected_21 rfl ?_
      refine aw_getR1 dX1_comesAsExpected_22 fx_RX1_26 (by first | rfl | assumption) (by first | rfl | assumption) ?_
      refine aw_v1q dX1_comesAsExpected_25 vl_RX1_42 (by first | rfl | assumption) (Nat.le_of_ble_eq_true rfl) (Nat.le_of_ble_eq_true rfl) (Nat.le_of_ble_eq_true rfl) (Nat.le_refl _) (Nat.le_refl _) (c_X6_goRound sh_21 isSe (by decide) hro2 (by rw [hc]; exact rndN_wf hV k)) ?_
      intro v t' h3 hq
      obtain ⟨rfl, rfl, f3, f4⟩ := hq
      rw [hc] at f3
      have sc : SC2 h h3 := fun c hc2 => by rw [f4 c (by omega) (by omega)]; exact hf c hc2
      have e21 : h3 21 0 = V 0 0 := by rw [← cVc (h := h3), f3]; exact rndN_0 (k + 1) 0
      have e5 : h3 232 5 = it := by rw [sc 232 (by decide)]; exact h5
      have eg : h3 (21 + 3) it = rndN V (k + 1) 3 it := by rw [← cV3 (h := h3) (a := 21) i0 (by omega), f3]; rfl
      have ev : h3 ex (fr + k) = g k := by rw [sc ex (by omega)]; exact hg k (by omega)
      refine aw_pop dX1_comesAsExpected_28 rfl ?_
      refine aw_iload_n dX1_comesAsExpected_29 rfl ?_
      refine aw_if_lt 63 dX1_comesAsExpected_30 rfl (fun c30 => ?_) (fun c30 => ?_)
      · exfalso; omega
      · refine aw_iload_n dX1_comesAsExpected_33 rfl ?_
        refine aw_aload_n dX1_comesAsExpected_34 rfl ?_
        refine aw_getR1 dX1_comesAsExpected_35 fx_RX1_33 (by first | rfl | assumption) (by first | rfl | assumption) ?_
        refine aw_arraylength dX1_comesAsExpected_38 (by first | rfl | assumption) rfl (by decide) ?_
        refine aw_icmp_ge 63 dX1_comesAsExpected_39 rfl (fun c39 => ?_) (fun c39 => ?_)
        · exfalso; omega
        · refine aw_aload_n dX1_comesAsExpected_42 rfl ?_
          refine aw_getR1 dX1_comesAsExpected_43 fx_RX1_26 (by first | rfl | assumption) (by first | rfl | assumption) ?_
          refine aw_getR1 dX1_comesAsExpected_46 fx_RX1_48 (by first | rfl | assumption) (by first | rfl | assumption) ?_
          refine aw_aload_n dX1_comesAsExpected_49 rfl ?_
          refine aw_getI dX1_comesAsExpected_50 fx_RX1_102 (by first | rfl | assumption) ?_
          rw [e5]
          refine aw_iaload dX1_comesAsExpected_53 (by first | rfl | assumption) (by omega) (by omega) ?_
          refine aw_aload_n dX1_comesAsExpected_54 rfl ?_
          refine aw_getR1 dX1_comesAsExpected_55 fx_RX1_33 (by first | rfl | assumption) (by first | rfl | assumption) ?_
          refine aw_iload_n dX1_comesAsExpected_58 rfl ?_
          rw [e7]
          refine aw_iaload dX1_comesAsExpected_59 (by first | rfl | assumption) (by omega) (by omega) ?_
          refine aw_icmp_eq 65 dX1_comesAsExpected_60 rfl (fun c60 => ?_) (fun c60 => ?_)
          · refine aw_iinc (ls' := [_, _, _]) dX1_comesAsExpected_65 (by decide) rfl (by omega) (by omega) rfl ?_
            refine aw_goto 2 dX1_comesAsExpected_68 rfl ?_
            exact aw_less (by repeat' (first | exact trivial | exact rfl | apply And.intro)) (ih (k + 1) h3 (by omega) sc f3 (by rw [em]; exact decide_eq_true (by rw [← eg, ← ev]; exact c60)))
          · refine aw_iconst dX1_comesAsExpected_63 (by decide) (by decide) ?_
            refine aw_zreturn dX1_comesAsExpected_64 rfl (Nat.le_refl _) (Nat.le_refl _) (by decide) (by decide) ?_
            have z := hk h3 sc
            rw [cmS_le (k := k + 1) (by omega) (by rw [em]; exact decide_eq_false (fun y => c60 (by rw [eg, ev]; exact y)))] at z
            exact z
theorem c_X1_comes {V : VW} {it fr : Int} {N ex : Nat} {g : Int → Int} (hv : cV h 21 = V) (hV : WFv V) (hro : RO h) (hex : (TT ex q n L).2.1 ex = (20, 40)) (hxl : ex < 21) (h5 : h 232 5 = it) (h7 : h 232 7 = fr) (h8 : h 232 8 = (N : Int)) (i0 : 0 ≤ it) (i1 : it < V 0 0) (f0 : 0 ≤ fr) (fN : fr + N ≤ 40) (hg : ∀ k : Nat, k < N → h ex (fr + k) = g k) :
    Sem M_X1_comesAsExpected [vR 232] (TT ex q n L) h 0 0 (fun v t' h' => v = some (vI (if cmS V it g N = true then 1 else 0)) ∧ t' = TT ex q n L ∧ SC2 h h') := by
  refine sem_intro (by decide) rfl (Nat.le_of_ble_eq_true rfl) rfl ?_
  refine aw_iconst dX1_comesAsExpected_0 (by decide) (by decide) ?_
  refine aw_istore_n (ls' := [_, _, _]) dX1_comesAsExpected_1 (by decide) rfl ?_
  exact l_comes (h := h) hV hro hex hxl h5 h7 h8 i0 i1 f0 fN hg (fun hh f => ⟨rfl, rfl, f⟩) N 0 h (by omega) (fun _ _ => rfl) hv rfl
end FIT
