def wLP (σ : ST) (V : VW) (p : Nat × (Nat → VW)) : ST := (σ.1, σ.2.1, σ.2.2.1, σ.2.2.2.1, σ.2.2.2.2.1, σ.2.2.2.2.2.1, V, p, σ.2.2.2.2.2.2.2.2)
theorem CS.mkI {h h' : Mem} {σ : ST} {V : VW} {p : Nat × (Nat → VW)} (hC : CS h σ) (fr : ∀ c, (c ≤ 13 ∨ (360 ≤ c ∧ c ≤ 372)) → h' c = h c) (hl : cV h' 16 = V) (hp : CSp h' p) : CS h' (wLP σ V p) := by
  obtain ⟨a1, a2, a3, a4, -, -, a7, a8⟩ := hC
  refine ⟨CSr.fr (fun c _ _ => fr c (by omega)) a1, by rw [fr 0 (by omega)]; exact a2, ⟨by rw [fr 0 (by omega)]; exact a3.1, fun j j0 j1 => by rw [fr 13 (by omega)]; exact a3.2 j j0 j1⟩, by rw [fr 0 (by omega)]; exact a4, hl, hp, fun k k0 k1 => ?_, ⟨by rw [fr 371 (by omega)]; exact a8.1, fun j j0 j1 => by rw [fr 372 (by omega)]; exact a8.2 j j0 j1⟩⟩
  show _ = s_img σ k
  rw [← a7 k k0 k1]
  exact cV_congr (fun k _ _ => by rw [fr _ (by omega)]) (fun j k _ _ _ _ => by rw [fr _ (by omega)])
theorem wf_liv {V : VW} (h : WFs V) (h0 : V 0 0 ≠ 0) : WFv V ∧ 0 ≤ V 0 4 ∧ V 0 4 ≤ 9999 ∧ cut V = V := by
  rcases h with h | h
  · rw [h] at h0; exact absurd rfl h0
  · exact h
theorem wf_cnt {V : VW} (h : WFs V) : 0 ≤ V 0 0 ∧ V 0 0 ≤ 12 := by
  rcases h with h | h
  · rw [h]; show (0 : Int) ≤ 0 ∧ (0 : Int) ≤ 12; omega
  · exact ⟨by have := h.1.1; omega, h.1.2.1⟩
/-! counting rounds changes nothing else -/
theorem addR_ne {V : VW} {r : Int} {j : Nat} {k : Int} (h : ¬ (j = 0 ∧ k = 4)) : addR V r j k = V j k := if_neg h
theorem addR_j {V : VW} {r : Int} {j : Nat} (h : j ≠ 0) : addR V r j = V j := by funext k; exact addR_ne (by omega)
theorem wdg_addR {V : VW} {r : Int} {g : Int → Int} {i : Int} : wdg (addR V r) g i = wdg V g i := by unfold wdg; rw [addR_j (j := 1) (by decide), addR_j (j := 2) (by decide), addR_j (j := 4) (by decide)]
theorem wd_addR {V : VW} {r i : Int} : wd (addR V r) i = wd V i := by unfold wd; rw [wdg_addR, addR_j (j := 3) (by decide)]
theorem plc_addR {V : VW} {r : Int} {x : Int → Int} {i : Int} {s : Int × Int × Int} : plc (addR V r) x i s = plc V x i s := by
  unfold plc
  rw [wd_addR, addR_j (j := 1) (by decide), addR_ne (j := 0) (k := 1) (by decide), addR_ne (j := 0) (k := 2) (by decide)]
theorem pst_addR {V : VW} {r : Int} {x : Int → Int} : ∀ n : Nat, pst (addR V r) x n = pst V x n
  | 0 => by show (addR V r 0 3, (0 : Int), (0 : Int)) = _; rw [addR_ne (by decide)]; rfl
  | n + 1 => by
    show nxt (addR V r) x n _ = nxt V x n _
    unfold nxt
    rw [pst_addR n, plc_addR, wd_addR, addR_j (j := 1) (by decide)]
theorem stand_addR {V : VW} {r : Int} {x : Int → Int} {i : Int} : stand (addR V r) x i = stand V x i := by unfold stand; rw [pst_addR, plc_addR]
theorem rnd_addR {V : VW} {r : Int} : rnd (addR V r) = addR (rnd V) r := by
  funext j k
  by_cases h : j = 3 ∧ 0 ≤ k ∧ k < V 0 0
  · have e1 : rnd (addR V r) j k = pag (addR V r) k := if_pos ⟨h.1, h.2.1, by rw [addR_ne (by decide)]; exact h.2.2⟩
    have e2 : addR (rnd V) r j k = pag V k := by rw [addR_ne (by omega)]; exact if_pos h
    rw [e1, e2]; show (stand _ _ _).1 = _; rw [stand_addR]
  · have e1 : rnd (addR V r) j k = addR V r j k := if_neg (by rw [addR_ne (j := 0) (k := 0) (by decide)]; exact h)
    rw [e1]
    unfold addR
    by_cases h4 : j = 0 ∧ k = 4
    · rw [if_pos h4, if_pos h4]; congr 1
    · rw [if_neg h4, if_neg h4]; exact (if_neg h).symm
theorem chg_addR {V : VW} {r : Int} : ∀ n : Nat, chg (addR V r) n = chg V n
  | 0 => rfl
  | n + 1 => by
    have e : pag (addR V r) n = pag V n := by show (stand _ _ _).1 = _; rw [stand_addR]
    unfold chg
    rw [chg_addR n, e, addR_j (j := 3) (by decide)]
theorem addR_wf {V : VW} {r : Int} (hV : WFv V) : WFv (addR V r) := by
  obtain ⟨c1, c2, c3, c4, c5, c6, c7, c8, hi⟩ := hV
  have e : ∀ k : Int, k ≠ 4 → addR V r 0 k = V 0 k := fun k hk => addR_ne (by omega)
  unfold WFv
  rw [e 0 (by decide), e 1 (by decide), e 2 (by decide), e 3 (by decide), addR_j (j := 1) (by decide), addR_j (j := 2) (by decide), addR_j (j := 3) (by decide), addR_j (j := 4) (by decide)]
  exact ⟨c1, c2, c3, c4, c5, c6, c7, c8, hi⟩
theorem cV_addR {h : Mem} {a : Nat} {x r : Int} (hx : x = h a 4 + r) : cV (am_up h a 4 x) a = addR (cV h a) r := by
  have ea : ∀ j : Int, j ≠ 4 → am_up h a 4 x a j = h a j := fun j hj => by simp [am_up, hj]
  funext j k
  by_cases hj : j = 0
  · subst hj
    by_cases h4 : k = 4
    · rw [h4, cVr]
      show _ = (if 0 = 0 ∧ (4 : Int) = 4 then cV h a 0 4 + r else _)
      rw [if_pos ⟨rfl, rfl⟩, cVr, ← hx]; simp [am_up]
    · rw [addR_ne (by omega)]
      unfold cV cut
      rw [if_pos rfl, if_pos rfl]
      show (if _ then am_up h a 4 x (a + 0) k else 0) = (if _ then h (a + 0) k else 0)
      rw [show am_up h a 4 x (a + 0) k = h (a + 0) k from ea k h4]
  · rw [addR_ne (by omega)]
    unfold cV cut
    rw [if_neg hj, if_neg hj]
    show (if j < 5 ∧ 0 ≤ k ∧ k < am_up h a 4 x (a + 0) 0 then am_up h a 4 x (a + j) k else 0) = (if j < 5 ∧ 0 ≤ k ∧ k < h (a + 0) 0 then h (a + j) k else 0)
    rw [show am_up h a 4 x (a + 0) 0 = h (a + 0) 0 from ea 0 (by decide), am_up_ne (by omega)]
def sp_round (σ : ST) : Int × ST := if s_liv σ 0 0 = 0 then (-1000002, σ) else if 9999 ≤ s_liv σ 0 4 then (-1000003, σ) else (chg (s_liv σ) (s_liv σ 0 0).toNat, wLP σ (addR (rnd (s_liv σ)) 1) (pushP (s_pas σ) (s_liv σ)))
/-! settling keeps what is no guess and not frozen -/
theorem strun_ok {stop : Bool} : ∀ (n : Nat) (V : VW) (H : Nat → Int → Int) (kp : Nat) (r f g : Int), WFv V → (∀ k : Nat, k < kp → ∀ j, 0 ≤ j → j < V 0 0 → 1 ≤ H k j ∧ H k j ≤ 98) → 0 ≤ r → 0 ≤ f → 0 ≤ g → g ≤ 300 → (kp : Int) ≤ 100 + r → r + n ≤ 200 →
    WFv (strun stop n V H kp r f g).1 ∧ r ≤ (strun stop n V H kp r f g).2.1 ∧ (strun stop n V H kp r f g).2.1 ≤ r + n ∧ f ≤ (strun stop n V H kp r f g).2.2.1 ∧ (strun stop n V H kp r f g).2.2.1 ≤ f + n ∧ (∀ k, (strun stop n V H kp r f g).1 0 k = V 0 k)
  | 0, V, H, kp, r, f, g, hV, hH, hr, hf, hg, hg2, hk, hn => by
    show WFv V ∧ r ≤ r ∧ r ≤ r + (0 : Nat) ∧ f ≤ f ∧ f ≤ f + (0 : Nat) ∧ ∀ k, V 0 k = V 0 k
    exact ⟨hV, by omega, by omega, by omega, by omega, fun _ => rfl⟩
  | n + 1, V, H, kp, r, f, g, hV, hH, hr, hf, hg, hg2, hk, hn => by
    unfold strun
    by_cases hst : stl V = true
    · rw [if_pos hst]
      exact ⟨hV, by show r ≤ r; omega, by show r ≤ r + ((n + 1 : Nat) : Int); omega, by show f ≤ f; omega, by show f ≤ f + ((n + 1 : Nat) : Int); omega, fun _ => rfl⟩
    · rw [if_neg hst]
      have hV1 := rnd_wf hV
      have hH1 : ∀ k : Nat, k < kp + 1 → ∀ j, 0 ≤ j → j < (rnd V) 0 0 → 1 ≤ hup H kp (V 3) k j ∧ hup H kp (V 3) k j ≤ 98 := by
        intro k hk2 j j0 j1
        have j2 : j < V 0 0 := j1
        by_cases e : k = kp
        · rw [e, hup_at]
          have := hV.2.2.2.2.2.2.2.2 j j0 j2
          omega
        · rw [hup_ne e]; exact hH k (by omega) j j0 j2
      have es : ∀ k, rnd V 0 k = V 0 k := fun k => if_neg (by omega)
      have hfb := find_bd (f := rnd V 3) (H := hup H kp (V 3)) (cnt := (V 0 0).toNat) kp
      by_cases hs : find (rnd V 3) (hup H kp (V 3)) (V 0 0).toNat kp = -1
      · rw [if_pos hs]
        obtain ⟨a1, a2, a3, a4, a5, a6⟩ := strun_ok (stop := stop) n (rnd V) (hup H kp (V 3)) (kp + 1) (r + 1) f g hV1 hH1 (by omega) hf hg hg2 (by omega) (by omega)
        exact ⟨a1, by omega, by omega, by omega, by omega, fun k => by rw [a6, es]⟩
      · rw [if_neg hs]
        have hV2 := frz_wf (s := (find (rnd V 3) (hup H kp (V 3)) (V 0 0).toNat kp).toNat) hV1 hH1
        have es2 : ∀ s : Nat, ∀ k, frz (rnd V) (hup H kp (V 3)) s (kp + 1) 0 k = V 0 k := fun s k => (if_neg (by omega)).trans (es k)
        by_cases hp : stop = true
        · rw [if_pos hp]
          exact ⟨hV2, by show r ≤ r + 1; omega, by show r + 1 ≤ r + ((n + 1 : Nat) : Int); omega, by show f ≤ f + 1; omega, by show f + 1 ≤ f + ((n + 1 : Nat) : Int); omega, fun k => es2 (find (rnd V 3) (hup H kp (V 3)) (V 0 0).toNat kp).toNat k⟩
        · rw [if_neg hp]
          obtain ⟨a1, a2, a3, a4, a5, a6⟩ := strun_ok (stop := stop) n (frz (rnd V) (hup H kp (V 3)) (find (rnd V 3) (hup H kp (V 3)) (V 0 0).toNat kp).toNat (kp + 1)) (fun _ _ => 0) 0 (r + 1) (f + 1) (if f + 1 = 1 then (kp : Int) + 1 - find (rnd V 3) (hup H kp (V 3)) (V 0 0).toNat kp else g) hV2 (fun k hk2 => absurd hk2 (by omega)) (by omega) (by omega) (by split <;> omega) (by split <;> omega) (by omega) (by omega)
          exact ⟨a1, by omega, by omega, by omega, by omega, fun k => by rw [a6, es2]⟩
theorem settles_ok {stop : Bool} {V : VW} (hV : WFv V) : WFv (settles stop V).1 ∧ 0 ≤ (settles stop V).2.1 ∧ (settles stop V).2.1 ≤ 200 ∧ 0 ≤ (settles stop V).2.2.1 ∧ (settles stop V).2.2.1 ≤ 200 ∧ ∀ k, (settles stop V).1 0 k = V 0 k := by
  obtain ⟨a1, a2, a3, a4, a5, a6⟩ := strun_ok (stop := stop) 200 V (fun _ _ => 0) 0 0 0 0 hV (fun k hk => absurd hk (by omega)) (by omega) (by omega) (by omega) (by omega) (by omega) (by omega)
  unfold settles
  exact ⟨a1, a2, by omega, a4, by omega, a6⟩
section ACT
variable {e q n L : Nat} {h : Mem} {σ : ST}
set_option maxHeartbeats 1000000 in
theorem c_X8_round (hC : CS h σ) (hW : WFst σ) (hro : RO h) : Sem M_X8_round [vR 0] (TT e q n L) h 0 0 (PC (sp_round σ) h (TT e q n L)) := by
  have eV : cV h 16 = s_liv σ := hC.2.2.2.2.1
  have e0 : h 16 0 = s_liv σ 0 0 := by rw [← eV, cVc]
  have e4 : h 16 4 = s_liv σ 0 4 := by rw [← eV, cVr]
  have hcn := wf_cnt hW.2.2.2.1
  unfold sp_round
  refine sem_intro (by decide) rfl (Nat.le_of_ble_eq_true rfl) rfl ?_
  refine aw_aload_n dX8_round_0 rfl ?_
  refine aw_v0i dX8_round_1 vl_RX8_142 (by first | rfl | assumption) (Nat.le_of_ble_eq_true rfl) (Nat.le_of_ble_eq_true rfl) (Nat.le_of_ble_eq_true rfl) (Nat.le_refl _) (Nat.le_refl _) (c_X8_isWithoutSheet) ?_
  refine aw_ifB_eq 10 dX8_round_4 rfl (fun c4 => ?_) (fun c4 => ?_)
  · have hL := wf_liv hW.2.2.2.1 (by omega)
    refine aw_aload_n dX8_round_10 rfl ?_
    refine aw_getR1 dX8_round_11 fx_RX8_30 (by first | rfl | assumption) (by first | rfl | assumption) ?_
    refine aw_getI dX8_round_14 fx_RX8_147 (by first | rfl | assumption) ?_
    refine aw_sipush dX8_round_17 (by decide) (by decide) ?_
    refine aw_icmp_lt 26 dX8_round_20 rfl (fun c20 => ?_) (fun c20 => ?_)
    · refine aw_aload_n dX8_round_26 rfl ?_
      refine aw_getR1 dX8_round_27 fx_RX8_56 (by first | rfl | assumption) (by first | rfl | assumption) ?_
      refine aw_aload_n dX8_round_30 rfl ?_
      refine aw_getR1 dX8_round_31 fx_RX8_30 (by first | rfl | assumption) (by first | rfl | assumption) ?_
      refine aw_v1q dX8_round_34 vl_RX8_150 (by first | rfl | assumption) (Nat.le_of_ble_eq_true rfl) (Nat.le_of_ble_eq_true rfl) (Nat.le_of_ble_eq_true rfl) (Nat.le_refl _) (Nat.le_refl _) (c_X3_remember hC.2.2.2.2.2.1 (by omega)) ?_
      intro v t' h1 hq
      obtain ⟨rfl, rfl, f1, f2⟩ := hq
      rw [eV] at f1
      have g16 : h1 16 = h 16 := f2 16 (by omega)
      have eV1 : cV h1 16 = s_liv σ := by rw [← eV]; exact cV_congr (fun k _ _ => by rw [f2 _ (by omega)]) (fun j k _ _ _ _ => by rw [f2 _ (by omega)])
      refine aw_aload_n dX8_round_37 rfl ?_
      refine aw_getR1 dX8_round_38 fx_RX8_30 (by first | rfl | assumption) (by first | rfl | assumption) ?_
      refine aw_dup dX8_round_41 rfl ?_
      refine aw_getI dX8_round_42 fx_RX8_147 (by first | rfl | assumption) ?_
      refine aw_iconst dX8_round_45 (by decide) (by decide) ?_
      rw [show h1 16 4 = h 16 4 by rw [g16]]
      refine aw_iadd dX8_round_46 (by omega) (by omega) ?_
      refine aw_putI dX8_round_47 fp_RX8_147 (by first | rfl | assumption) ?_
      obtain ⟨h2, hh2⟩ : ∃ h2, h2 = am_up h1 16 4 (h 16 4 + 1) := ⟨_, rfl⟩
      rw [← hh2]
      have eV2 : cV h2 16 = addR (s_liv σ) 1 := by rw [hh2, cV_addR (r := 1) (by rw [g16]), eV1]
      have g2 : ∀ c, c ≠ 16 → h2 c = h1 c := fun c hc => by rw [hh2]; exact am_up_ne hc
      refine aw_aload_n dX8_round_50 rfl ?_
      refine aw_getR1 dX8_round_51 fx_RX8_40 (by first | rfl | assumption) (by first | rfl | assumption) ?_
      refine aw_aload_n dX8_round_54 rfl ?_
      refine aw_getR1 dX8_round_55 fx_RX8_30 (by first | rfl | assumption) (by first | rfl | assumption) ?_
      refine aw_v1q dX8_round_58 vl_RX8_153 (by first | rfl | assumption) (Nat.le_of_ble_eq_true rfl) (Nat.le_of_ble_eq_true rfl) (Nat.le_of_ble_eq_true rfl) (Nat.le_refl _) (Nat.le_refl _) (c_X6_goRound sh_16 isSe (by decide) (fun j j0 j1 => by rw [g2 _ (by decide), f2 _ (by decide)]; exact hro j j0 j1) (by rw [eV2]; exact addR_wf hL.1)) ?_
      intro v t' h3 hq
      obtain ⟨rfl, rfl, f3, f4⟩ := hq
      rw [eV2, chg_addR, show h2 16 0 = s_liv σ 0 0 by rw [← cVc (h := h2), eV2, addR_ne (by decide)]]
      rw [eV2, rnd_addR] at f3
      refine aw_ireturn dX8_round_61 rfl (Nat.le_refl _) (Nat.le_refl _) ?_
      rw [if_neg (by omega), if_neg (by omega)]
      exact ⟨rfl, rfl, hC.mkI (fun c hc => by rw [f4 c (by omega) (by omega), g2 c (by omega), f2 c (by omega)]) f3 (f1.fr (fun c d0 d1 => by rw [f4 c (by omega) (by omega), g2 c (by omega)])), fun c hc => by rw [f4 c (by omega) (by omega), g2 c (by omega), f2 c (by omega)]⟩
    · refine aw_ldc (n := -1000003) dX8_round_23 kc_RX8_118 (by decide) ?_
      refine aw_ireturn dX8_round_25 rfl (Nat.le_refl _) (Nat.le_refl _) ?_
      rw [if_neg (by omega), if_pos (by omega)]
      exact ⟨rfl, rfl, hC, fun _ _ => rfl⟩
  · refine aw_ldc (n := -1000002) dX8_round_7 kc_RX8_146 (by decide) ?_
    refine aw_ireturn dX8_round_9 rfl (Nat.le_refl _) (Nat.le_refl _) ?_
    rw [if_pos (by omega)]
    exact ⟨rfl, rfl, hC, fun _ _ => rfl⟩
end ACT
