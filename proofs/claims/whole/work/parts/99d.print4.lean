/-! print -/
def QPr (sp : Int × ST) (h : Mem) (e q n L : Nat) : Option AV → Tp → Mem → Prop := fun v t' h' => v = some (vI sp.1) ∧ (∃ n', (n' = n ∨ n' = n + 2) ∧ t' = TT e q n' L) ∧ CS h' sp.2 ∧ ∀ c, 373 ≤ c → c < n ∨ n + 1 < c → h' c = h c
theorem c_X8_print {e q n L : Nat} {h : Mem} {σ : ST} {i j : Int} (n1 : 389 ≤ n) (n2 : n % 2 = 1) (n3 : n + 2 ≤ 1000000) (hd : DG h) (hC : CS h σ) (hW : WFst σ) : Sem M_X8_print [vR 0, vI i, vI j] (TT e q n L) h 2 20 (QPr (sp_print σ i j) h e q n L) := by
  have eV : cV h 16 = s_liv σ := hC.2.2.2.2.1
  have e0 : h 16 0 = s_liv σ 0 0 := by rw [← eV, cVc]
  have hcn := wf_cnt hW.2.2.2.1
  have k1 : 0 ≤ i ∧ i < h 16 0 → h (16 + 1) i = s_liv σ 1 i ∧ 1 ≤ s_liv σ 1 i ∧ WFv (s_liv σ) := fun z => by
    have hL := wf_liv hW.2.2.2.1 (by omega)
    exact ⟨by rw [← eV, cV1 z.1 z.2], (hL.1.2.2.2.2.2.2.2.2 i z.1 (by omega)).1, hL.1⟩
  unfold sp_print
  refine sem_intro (by decide) rfl (Nat.le_of_ble_eq_true rfl) rfl ?_
  refine aw_aload_n dX8_print_0 rfl ?_
  refine aw_getR1 dX8_print_1 fx_RX8_30 (by first | rfl | assumption) (by first | rfl | assumption) ?_
  refine aw_iload_n dX8_print_4 rfl ?_
  refine aw_v1i dX8_print_5 vl_RX8_162 (by first | rfl | assumption) (Nat.le_of_ble_eq_true rfl) (Nat.le_of_ble_eq_true rfl) (Nat.le_of_ble_eq_true rfl) (by omega) (by omega) (c_X7_holds (by first | assumption | exact sh_16 | exact sh_21)) ?_
  refine aw_ifB_eq 26 dX8_print_8 rfl (fun c8 => ?_) (fun c8 => ?_)
  · refine aw_ldc (n := -1000001) dX8_print_26 kc_RX8_80 (by decide) ?_
    refine aw_ireturn dX8_print_28 rfl (by omega) (by omega) ?_
    first | (rw [if_pos (by omega)]; exact ⟨rfl, ⟨n, Or.inl rfl, rfl⟩, hC, fun _ _ _ => rfl⟩) | (obtain ⟨kk1, kk2, kk3⟩ := k1 c8; rw [if_pos (by omega)]; exact ⟨rfl, ⟨n, Or.inl rfl, rfl⟩, hC, fun _ _ _ => rfl⟩)
  · refine aw_aload_n dX8_print_11 rfl ?_
    refine aw_getR1 dX8_print_12 fx_RX8_30 (by first | rfl | assumption) (by first | rfl | assumption) ?_
    refine aw_iload_n dX8_print_15 rfl ?_
    refine aw_v1i dX8_print_16 vl_RX8_226 (by first | rfl | assumption) (Nat.le_of_ble_eq_true rfl) (Nat.le_of_ble_eq_true rfl) (Nat.le_of_ble_eq_true rfl) (by omega) (by omega) (c_X7_isReference (by first | assumption | exact sh_16 | exact sh_21) (by omega) (by omega)) ?_
    refine aw_ifB_eq 26 dX8_print_19 rfl (fun c19 => ?_) (fun c19 => ?_)
    · refine aw_ldc (n := -1000001) dX8_print_26 kc_RX8_80 (by decide) ?_
      refine aw_ireturn dX8_print_28 rfl (by omega) (by omega) ?_
      first | (rw [if_pos (by omega)]; exact ⟨rfl, ⟨n, Or.inl rfl, rfl⟩, hC, fun _ _ _ => rfl⟩) | (obtain ⟨kk1, kk2, kk3⟩ := k1 c8; rw [if_pos (by omega)]; exact ⟨rfl, ⟨n, Or.inl rfl, rfl⟩, hC, fun _ _ _ => rfl⟩)
    · refine aw_iload_n dX8_print_22 rfl ?_
      refine aw_if_ge 29 dX8_print_23 rfl (fun c23 => ?_) (fun c23 => ?_)
      · obtain ⟨kk1, kk2, kk3⟩ := k1 c8
        rw [if_neg (by omega)]
        refine aw_aload_n dX8_print_29 rfl ?_
        refine aw_getR1 dX8_print_30 fx_RX8_30 (by first | rfl | assumption) (by first | rfl | assumption) ?_
        refine aw_iload_n dX8_print_33 rfl ?_
        refine aw_iload_n dX8_print_34 rfl ?_
        refine aw_v2q dX8_print_35 vl_RX8_229 (by first | rfl | assumption) (Nat.le_of_ble_eq_true rfl) (Nat.le_of_ble_eq_true rfl) (Nat.le_of_ble_eq_true rfl) (by omega) (by omega) (c_X7_signOf (V := s_liv σ) n1 n2 n3 hd eV kk3 (by omega) (by omega) (by omega) (by omega)) ?_
        intro v t' h1 hq
        obtain ⟨rfl, rfl, f1⟩ := hq
        refine aw_ireturn dX8_print_38 rfl (by omega) (by omega) ?_
        exact ⟨rfl, ⟨n + 2, Or.inr rfl, rfl⟩, hC.fr (fun c hc => f1 c (by unfold KC at hc; omega) (by unfold KC at hc; omega)), fun c c1 c2 => f1 c (by omega) (by omega)⟩
      · refine aw_ldc (n := -1000001) dX8_print_26 kc_RX8_80 (by decide) ?_
        refine aw_ireturn dX8_print_28 rfl (by omega) (by omega) ?_
        first | (rw [if_pos (by omega)]; exact ⟨rfl, ⟨n, Or.inl rfl, rfl⟩, hC, fun _ _ _ => rfl⟩) | (obtain ⟨kk1, kk2, kk3⟩ := k1 c8; rw [if_pos (by omega)]; exact ⟨rfl, ⟨n, Or.inl rfl, rfl⟩, hC, fun _ _ _ => rfl⟩)
