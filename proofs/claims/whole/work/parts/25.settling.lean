/-! Settling: one object (26), its outline (27 .. 30), the guesses ahead (31: 32 .. 231) -/
def IsSe (t : Tp) : Prop := t.2.1 26 = (7, 7) ∧ t.2.2 26 0 = some 27 ∧ t.2.2 26 1 = some 31 ∧ t.2.1 31 = (24, 200) ∧ IsOl t 27 ∧ (∀ i : Int, 0 ≤ i → i < 200 → t.2.2 31 i = some (32 + i.toNat)) ∧ (∀ i : Nat, i < 200 → t.2.1 (32 + i) = (20, 12)) ∧ t.2.1 1000001 = (20, 10)
theorem isSe {e q n L : Nat} : IsSe (TT e q n L) := ⟨rfl, rfl, rfl, rfl, ol_27, fun i h0 h1 => rf_ah h0 h1, fun i h => sh_ah h, rfl⟩
section SET
variable {t : Tp} {h : Mem}
theorem l_areSame {Q : Option AV → Tp → Mem → Prop} {a pg : Nat} (hs : IsSh t a) (hp : t.2.1 pg = (20, 12)) (h0 : 0 ≤ h a 0) (h1 : h a 0 ≤ 12) (hk : Q (some (vI (if eqg (h (a + 3)) (h pg) (h a 0).toNat = true then 1 else 0))) t h) :
    ∀ (m : Nat) (i : Nat), (i : Int) + m = h a 0 → eqg (h (a + 3)) (h pg) i = true → AW M_X6_areSame 0 0 Q 2 [some (vR a), some (vR pg), some (vI i)] [] t h 0 0 := by
  obtain ⟨s0, s1, s2, s3, s4, r5, r6, r7, r8, lt⟩ := id hs
  intro m
  induction m with
  | zero =>
    intro i hi he
    have e1 : (h a 0).toNat = i := by omega
    rw [e1, if_pos he] at hk
    refine aw_iload_n dX6_areSame_2 rfl ?_
    refine aw_aload_n dX6_areSame_3 rfl ?_
    refine aw_getI dX6_areSame_4 fx_RX6_27 (by first | assumption | rfl) ?_
    refine aw_icmp_ge 30 dX6_areSame_7 rfl (fun c7 => ?_) (fun c7 => ?_)
    · refine aw_iconst dX6_areSame_30 (by decide) (by decide) ?_
      refine aw_zreturn dX6_areSame_31 rfl (Nat.le_refl _) (Nat.le_refl _) (by first | decide | omega) (by first | decide | omega) ?_
      exact hk
    · exfalso; omega
  | succ m ih =>
    intro i hi he
    refine aw_iload_n dX6_areSame_2 rfl ?_
    refine aw_aload_n dX6_areSame_3 rfl ?_
    refine aw_getI dX6_areSame_4 fx_RX6_27 (by first | assumption | rfl) ?_
    refine aw_icmp_ge 30 dX6_areSame_7 rfl (fun c7 => ?_) (fun c7 => ?_)
    · exfalso; omega
    · refine aw_aload_n dX6_areSame_10 rfl ?_
      refine aw_getR1 dX6_areSame_11 fx_RX6_33 (by first | assumption | rfl) (by first | assumption | rfl) ?_
      refine aw_iload_n dX6_areSame_14 rfl ?_
      refine aw_iaload dX6_areSame_15 (by first | assumption | rfl) (by omega) (by omega) ?_
      refine aw_aload_n dX6_areSame_16 rfl ?_
      refine aw_iload_n dX6_areSame_17 rfl ?_
      refine aw_iaload dX6_areSame_18 (by first | assumption | rfl) (by omega) (by omega) ?_
      refine aw_icmp_eq 24 dX6_areSame_19 rfl (fun c19 => ?_) (fun c19 => ?_)
      · refine aw_iinc (ls' := [_, _, _]) dX6_areSame_24 (by decide) rfl (by omega) (by omega) rfl ?_
        refine aw_goto 2 dX6_areSame_27 rfl ?_
        exact ih (i + 1) (by omega) (by unfold eqg; rw [he]; simpa using c19)
      · refine aw_iconst dX6_areSame_22 (by decide) (by decide) ?_
        refine aw_zreturn dX6_areSame_23 rfl (Nat.le_refl _) (Nat.le_refl _) (by first | decide | omega) (by first | decide | omega) ?_
        rw [eqg_no (i := i) (by omega) c19] at hk
        exact hk
theorem c_X6_areSame {a pg : Nat} (hs : IsSh t a) (hp : t.2.1 pg = (20, 12)) (h0 : 0 ≤ h a 0) (h1 : h a 0 ≤ 12) : SemE M_X6_areSame [vR a, vR pg] t h (some (vI (if eqg (h (a + 3)) (h pg) (h a 0).toNat = true then 1 else 0))) t h := by
  refine sem_intro (by decide) rfl (Nat.le_of_ble_eq_true rfl) rfl ?_
  refine aw_iconst dX6_areSame_0 (by decide) (by decide) ?_
  refine aw_istore_n (ls' := [_, _, _]) dX6_areSame_1 (by decide) rfl ?_
  exact l_areSame hs hp h0 h1 ⟨rfl, rfl, rfl⟩ (h a 0).toNat 0 (by omega) rfl
theorem Done.z0 {V : VW} {o : Nat} {hh : Mem} {i : Nat} (hD : Done V (ex1 (-1)) o hh i) : Done V zz o hh i := by
  intro k hk
  have e : stand V zz k = stand V (ex1 (-1)) k := stand_congr (by omega) (fun j j0 _ => by unfold zz ex1; rw [if_neg (by omega)])
  rw [e]
  exact hD k hk
/-- as it is set out now: pages, lines, columns of V in 28 .. 30 -/
theorem c_X6_outlined {a : Nat} (hs : IsSh t a) (he : IsSe t) (ha : a + 4 < 26) (hro : RO h) (hV : WFv (cV h a)) :
    Sem M_X6_outlined [vR 26, vR a] t h 0 0 (fun v t' h' => v = some (vR 27) ∧ t' = t ∧ FR h h' 28 30 ∧ Done (cV h a) zz 27 h' (h a 0).toNat) := by
  obtain ⟨e0, e1, e2, e3, e4, e5, e6, e7⟩ := id he
  obtain ⟨o0, o1, o2, o3, q0, q1, q2, lt2⟩ := id e4
  refine sem_intro (by decide) rfl (Nat.le_of_ble_eq_true rfl) rfl ?_
  refine aw_aload_n dX6_outlined_0 rfl ?_
  refine aw_getR1 dX6_outlined_1 fx_RX6_12 (by first | assumption | rfl) (by first | assumption | rfl) ?_
  refine aw_aload_n dX6_outlined_4 rfl ?_
  refine aw_iconst dX6_outlined_5 (by decide) (by decide) ?_
  refine aw_v2q dX6_outlined_6 vl_RX6_23 (by first | assumption | rfl) (Nat.le_of_ble_eq_true rfl) (Nat.le_of_ble_eq_true rfl) (Nat.le_of_ble_eq_true rfl) (Nat.le_refl _) (Nat.le_refl _) (c_X2_setOut e4 hs (by omega) e7 hro hV) ?_
  intro v t' h' hq
  obtain ⟨rfl, rfl, f1, f2⟩ := hq
  refine aw_aload_n dX6_outlined_9 rfl ?_
  refine aw_getR1 dX6_outlined_10 fx_RX6_12 (by first | assumption | rfl) (by first | assumption | rfl) ?_
  refine aw_areturn dX6_outlined_13 rfl (by first | exact Or.inl ⟨_, rfl⟩ | exact Or.inr ⟨_, rfl⟩) (Nat.le_refl _) (Nat.le_refl _) ?_
  exact ⟨rfl, rfl, f1, f2.z0⟩
theorem stl_eq {a : Nat} {h' : Mem} (h0 : 0 ≤ h a 0) (f : FR h h' 28 30) (ha : a + 4 < 26) (hD : Done (cV h a) zz 27 h' (h a 0).toNat) : eqg (h' (a + 3)) (h' 28) (h' a 0).toNat = stl (cV h a) := by
  unfold stl
  rw [f a (by omega), cVc, f (a + 3) (by omega)]
  exact eqg_congr (fun i hi => (cV3 (by omega) (by omega)).symm) (fun i hi => (hD i hi).1)
theorem c_X6_isAtRest {a : Nat} (hs : IsSh t a) (he : IsSe t) (ha : a + 4 < 26) (hro : RO h) (hV : WFv (cV h a)) :
    Sem M_X6_isAtRest [vR 26, vR a] t h 0 0 (fun v t' h' => v = some (vI (if stl (cV h a) = true then 1 else 0)) ∧ t' = t ∧ FR h h' 28 30 ∧ Done (cV h a) zz 27 h' (h a 0).toNat) := by
  obtain ⟨e0, e1, e2, e3, e4, e5, e6, e7⟩ := id he
  obtain ⟨o0, o1, o2, o3, q0, q1, q2, lt2⟩ := id e4
  have v1 := hV.1
  have v2 := hV.2.1
  rw [cVc] at v1 v2
  refine sem_intro (by decide) rfl (Nat.le_of_ble_eq_true rfl) rfl ?_
  refine aw_aload_n dX6_isAtRest_0 rfl ?_
  refine aw_getR1 dX6_isAtRest_1 fx_RX6_12 (by first | assumption | rfl) (by first | assumption | rfl) ?_
  refine aw_aload_n dX6_isAtRest_4 rfl ?_
  refine aw_iconst dX6_isAtRest_5 (by decide) (by decide) ?_
  refine aw_v2q dX6_isAtRest_6 vl_RX6_23 (by first | assumption | rfl) (Nat.le_of_ble_eq_true rfl) (Nat.le_of_ble_eq_true rfl) (Nat.le_of_ble_eq_true rfl) (Nat.le_refl _) (Nat.le_refl _) (c_X2_setOut e4 hs (by omega) e7 hro hV) ?_
  intro v t' h' hq
  obtain ⟨rfl, rfl, f1, f2⟩ := hq
  have ec : h' a 0 = h a 0 := by rw [f1 a (by omega)]
  refine aw_aload_n dX6_isAtRest_9 rfl ?_
  refine aw_aload_n dX6_isAtRest_10 rfl ?_
  refine aw_getR1 dX6_isAtRest_11 fx_RX6_12 (by first | assumption | rfl) (by first | assumption | rfl) ?_
  refine aw_getR1 dX6_isAtRest_14 fx_RX6_37 (by first | assumption | rfl) (by first | assumption | rfl) ?_
  refine aw_s2i dX6_isAtRest_17 sl_RX6_77 (Nat.le_of_ble_eq_true rfl) (Nat.le_of_ble_eq_true rfl) (Nat.le_of_ble_eq_true rfl) (Nat.le_refl _) (Nat.le_refl _) (c_X6_areSame hs o1 (by omega) (by omega)) ?_
  rw [show eqg (h' (a + 3)) (h' (27 + 1)) (h' a 0).toNat = stl (cV h a) from stl_eq (by omega) f1 ha f2.z0]
  refine aw_zreturn dX6_isAtRest_20 rfl (Nat.le_refl _) (Nat.le_refl _) (by split <;> omega) (by split <;> omega) ?_
  exact ⟨rfl, rfl, f1, f2.z0⟩
set_option maxHeartbeats 1000000 in
theorem l_goRound {h1 : Mem} {Q : Option AV → Tp → Mem → Prop} {a : Nat} (hs : IsSh t a) (he : IsSe t) (ha : a + 4 < 26) (hV : WFv (cV h1 a)) (hD : Done (cV h1 a) zz 27 h1 (h1 a 0).toNat)
    (hk : ∀ hh : Mem, (∀ c, c ≠ a + 3 → hh c = h1 c) → (∀ k : Nat, (k : Int) < h1 a 0 → hh (a + 3) k = pag (cV h1 a) k) → Q (some (vI (chg (cV h1 a) (h1 a 0).toNat))) t hh) :
    ∀ (m : Nat) (i : Nat) (hh : Mem), (i : Int) + m = h1 a 0 → (∀ c, c ≠ a + 3 → hh c = h1 c) → (∀ k : Nat, k < i → hh (a + 3) k = pag (cV h1 a) k) → (∀ k : Nat, i ≤ k → hh (a + 3) k = h1 (a + 3) k) →
      AW M_X6_goRound 0 0 Q 13 [some (vR 26), some (vR a), some (vI (chg (cV h1 a) i)), some (vI i)] [] t hh 0 0 := by
  obtain ⟨s0, s1, s2, s3, s4, r5, r6, r7, r8, lt⟩ := id hs
  obtain ⟨e0, e1, e2, e3, e4, e5, e6, e7⟩ := id he
  obtain ⟨o0, o1, o2, o3, q0, q1, q2, lt2⟩ := id e4
  have v1 := hV.1
  have v2 := hV.2.1
  rw [cVc] at v1 v2
  have hcb : ∀ j : Nat, 0 ≤ chg (cV h1 a) j ∧ chg (cV h1 a) j ≤ j := by
    intro j
    induction j with
    | zero => simp [chg]
    | succ j ih => unfold chg; split <;> omega
  intro m
  induction m with
  | zero =>
    intro i hh hi g1 g2 g3
    have ec : hh a 0 = h1 a 0 := by rw [g1 a (by omega)]
    have e9 : (h1 a 0).toNat = i := by omega
    have z := hk hh g1 (fun k hk2 => g2 k (by omega))
    rw [e9] at z
    refine aw_iload_n dX6_goRound_13 rfl ?_
    refine aw_aload_n dX6_goRound_14 rfl ?_
    refine aw_getI dX6_goRound_15 fx_RX6_27 (by first | assumption | rfl) ?_
    refine aw_icmp_ge 63 dX6_goRound_18 rfl (fun c18 => ?_) (fun c18 => ?_)
    · refine aw_iload_n dX6_goRound_63 rfl ?_
      refine aw_ireturn dX6_goRound_64 rfl (Nat.le_refl _) (Nat.le_refl _) ?_
      exact z
    · exfalso; omega
  | succ m ih =>
    intro i hh hi g1 g2 g3
    have ec : hh a 0 = h1 a 0 := by rw [g1 a (by omega)]
    have ep : hh (27 + 1) i = pag (cV h1 a) i := by rw [g1 (27 + 1) (by omega)]; exact (hD i (by omega)).1
    have eg : hh (a + 3) i = cV h1 a 3 i := by rw [g3 i (by omega), cV3 (by omega) (by omega)]
    have hb := hcb i
    have y : ∀ hh2 : Mem, (∀ c, c ≠ a + 3 → hh2 c = h1 c) → (∀ k : Nat, k < i + 1 → hh2 (a + 3) k = pag (cV h1 a) k) → (∀ k : Nat, i + 1 ≤ k → hh2 (a + 3) k = h1 (a + 3) k) → _ := fun hh2 => ih (i + 1) hh2 (by omega)
    have ech : chg (cV h1 a) (i + 1) = chg (cV h1 a) i + (if cV h1 a 3 i = pag (cV h1 a) i then 0 else 1) := rfl
    rw [ech] at y
    refine aw_iload_n dX6_goRound_13 rfl ?_
    refine aw_aload_n dX6_goRound_14 rfl ?_
    refine aw_getI dX6_goRound_15 fx_RX6_27 (by first | assumption | rfl) ?_
    refine aw_icmp_ge 63 dX6_goRound_18 rfl (fun c18 => ?_) (fun c18 => ?_)
    · exfalso; omega
    · refine aw_aload_n dX6_goRound_21 rfl ?_
      refine aw_getR1 dX6_goRound_22 fx_RX6_33 (by first | assumption | rfl) (by first | assumption | rfl) ?_
      refine aw_iload_n dX6_goRound_25 rfl ?_
      refine aw_iaload dX6_goRound_26 (by first | assumption | rfl) (by omega) (by omega) ?_
      refine aw_aload_n dX6_goRound_27 rfl ?_
      refine aw_getR1 dX6_goRound_28 fx_RX6_12 (by first | assumption | rfl) (by first | assumption | rfl) ?_
      refine aw_getR1 dX6_goRound_31 fx_RX6_37 (by first | assumption | rfl) (by first | assumption | rfl) ?_
      refine aw_iload_n dX6_goRound_34 rfl ?_
      refine aw_iaload dX6_goRound_35 (by first | assumption | rfl) (by omega) (by omega) ?_
      refine aw_icmp_eq 57 dX6_goRound_36 rfl (fun c36 => ?_) (fun c36 => ?_)
      · rw [if_pos (by rw [← eg, ← ep]; exact c36), Int.add_zero] at y
        refine aw_iinc (ls' := [_, _, _, _]) dX6_goRound_57 (by decide) rfl (by omega) (by omega) rfl ?_
        refine aw_goto 13 dX6_goRound_60 rfl ?_
        exact y hh g1 (fun k hk2 => by
          by_cases e : k = i
          · rw [e, ← ep]; exact c36
          · exact g2 k (by omega)) (fun k hk2 => g3 k (by omega))
      · refine aw_iinc (ls' := [_, _, _, _]) dX6_goRound_39 (by decide) rfl (by omega) (by omega) rfl ?_
        refine aw_aload_n dX6_goRound_42 rfl ?_
        refine aw_getR1 dX6_goRound_43 fx_RX6_33 (by first | assumption | rfl) (by first | assumption | rfl) ?_
        refine aw_iload_n dX6_goRound_46 rfl ?_
        refine aw_aload_n dX6_goRound_47 rfl ?_
        refine aw_getR1 dX6_goRound_48 fx_RX6_12 (by first | assumption | rfl) (by first | assumption | rfl) ?_
        refine aw_getR1 dX6_goRound_51 fx_RX6_37 (by first | assumption | rfl) (by first | assumption | rfl) ?_
        refine aw_iload_n dX6_goRound_54 rfl ?_
        refine aw_iaload dX6_goRound_55 (by first | assumption | rfl) (by omega) (by omega) ?_
        refine aw_iastore dX6_goRound_56 (by first | assumption | rfl) (by omega) (by omega) (by omega) ?_
        refine aw_iinc (ls' := [_, _, _, _]) dX6_goRound_57 (by decide) rfl (by omega) (by omega) rfl ?_
        refine aw_goto 13 dX6_goRound_60 rfl ?_
        rw [if_neg (by rw [← eg, ← ep]; exact c36)] at y
        refine y _ (fun c hc => by rw [am_up_ne hc]; exact g1 c hc) (fun k hk2 => ?_) (fun k hk2 => ?_)
        · by_cases e : k = i
          · rw [e]; simp [am_up, ep]
          · rw [← g2 k (by omega)]; simp [am_up, show ¬ (k : Int) = i by omega]
        · rw [← g3 k (by omega)]; simp [am_up, show ¬ (k : Int) = i by omega]
theorem rnd_cV {a : Nat} {h1 hh : Mem} (hV : WFv (cV h1 a)) (g1 : ∀ c, c ≠ a + 3 → hh c = h1 c) (g2 : ∀ k : Nat, (k : Int) < h1 a 0 → hh (a + 3) k = pag (cV h1 a) k) : cV hh a = rnd (cV h1 a) := by
  have hc : rnd (cV h1 a) = cut (rnd (cV h1 a)) := by
    funext j k
    by_cases hj : j = 0
    · subst hj
      by_cases hk : 0 ≤ k ∧ k < 5
      · rw [cut_0 hk.1 hk.2]
      · show (if 0 = 3 ∧ 0 ≤ k ∧ k < cV h1 a 0 0 then _ else cV h1 a 0 k) = _
        unfold cut
        rw [if_neg (by omega), if_pos rfl, if_neg hk]
        unfold cV cut
        rw [if_pos rfl, if_neg hk]
    · by_cases hk : j < 5 ∧ 0 ≤ k ∧ k < cV h1 a 0 0
      · exact (cut_j (V := rnd (cV h1 a)) hj hk.1 hk.2.1 hk.2.2).symm
      · unfold cut
        rw [if_neg hj, if_neg (show ¬ (j < 5 ∧ 0 ≤ k ∧ k < rnd (cV h1 a) 0 0) from hk)]
        unfold rnd
        rw [if_neg (by omega)]
        unfold cV cut
        rw [if_neg hj, if_neg]
        rw [cVc] at hk
        exact hk
  rw [hc]
  unfold cV
  refine cut_eq (fun k k0 k1 => ?_) (fun j k j0 j5 k0 k1 => ?_)
  · show hh (a + 0) k = rnd (cV h1 a) 0 k
    rw [g1 (a + 0) (by omega)]
    show _ = (if 0 = 3 ∧ _ then _ else cV h1 a 0 k)
    rw [if_neg (by omega), cV0 k0 k1]; rfl
  · have k2 : k < h1 a 0 := by
      have e : hh (a + 0) 0 = h1 a 0 := by rw [g1 (a + 0) (by omega)]; rfl
      rw [← e]; exact k1
    show hh (a + j) k = (if j = 3 ∧ 0 ≤ k ∧ k < cV h1 a 0 0 then pag (cV h1 a) k else cV h1 a j k)
    by_cases e3 : j = 3
    · subst e3
      rw [if_pos ⟨rfl, k0, by rw [cVc]; exact k2⟩]
      have := g2 k.toNat (by omega)
      rw [am_nat k0] at this
      exact this
    · rw [if_neg (by omega), g1 (a + j) (by omega)]
      unfold cV
      rw [cut_j j0 j5 k0 k2]
theorem c_X6_goRound {a : Nat} (hs : IsSh t a) (he : IsSe t) (ha : a + 4 < 26) (hro : RO h) (hV : WFv (cV h a)) :
    Sem M_X6_goRound [vR 26, vR a] t h 0 0 (fun v t' h' => v = some (vI (chg (cV h a) (h a 0).toNat)) ∧ t' = t ∧ cV h' a = rnd (cV h a) ∧ ∀ c, c ≠ a + 3 → (c < 28 ∨ 30 < c) → h' c = h c) := by
  obtain ⟨e0, e1, e2, e3, e4, e5, e6, e7⟩ := id he
  obtain ⟨o0, o1, o2, o3, q0, q1, q2, lt2⟩ := id e4
  have v1 := hV.1
  rw [cVc] at v1
  refine sem_intro (by decide) rfl (Nat.le_of_ble_eq_true rfl) rfl ?_
  refine aw_aload_n dX6_goRound_0 rfl ?_
  refine aw_getR1 dX6_goRound_1 fx_RX6_12 (by first | assumption | rfl) (by first | assumption | rfl) ?_
  refine aw_aload_n dX6_goRound_4 rfl ?_
  refine aw_iconst dX6_goRound_5 (by decide) (by decide) ?_
  refine aw_v2q dX6_goRound_6 vl_RX6_23 (by first | assumption | rfl) (Nat.le_of_ble_eq_true rfl) (Nat.le_of_ble_eq_true rfl) (Nat.le_of_ble_eq_true rfl) (Nat.le_refl _) (Nat.le_refl _) (c_X2_setOut e4 hs (by omega) e7 hro hV) ?_
  intro v t' h1 hq
  obtain ⟨rfl, rfl, f1, f2⟩ := hq
  have eV : cV h1 a = cV h a := f1.cV (by omega)
  have ec : h1 a 0 = h a 0 := by rw [f1 a (by omega)]
  refine aw_iconst dX6_goRound_9 (by decide) (by decide) ?_
  refine aw_istore_n (ls' := [_, _, _, _]) dX6_goRound_10 (by decide) rfl ?_
  refine aw_iconst dX6_goRound_11 (by decide) (by decide) ?_
  refine aw_istore_n (ls' := [_, _, _, _]) dX6_goRound_12 (by decide) rfl ?_
  refine l_goRound (h1 := h1) hs he ha (by rw [eV]; exact hV) (by rw [eV, ec]; exact f2.z0) (fun hh g1 g2 => ⟨by rw [eV, ec], rfl, ?_, fun c c1 c2 => by rw [g1 c c1]; exact f1 c c2⟩) (h a 0).toNat 0 h1 (by omega) (fun c _ => rfl) (fun k hk => absurd hk (by omega)) (fun k _ => rfl)
  rw [← eV]
  exact rnd_cV (by rw [eV]; exact hV) g1 g2
end SET
