/-! what is foretold: tried in the cells 21 .. 237 -/
def SC (h h' : Mem) : Prop := ∀ c, c < 21 ∨ 237 < c → h' c = h c
theorem SC.rf {h : Mem} : SC h h := fun _ _ => rfl
theorem SC.tr {h h' h2 : Mem} (a : SC h h') (b : SC h' h2) : SC h h2 := fun c hc => (b c hc).trans (a c hc)
theorem SC.cV {h h' : Mem} {a : Nat} (f : SC h h') (e : a + 4 < 21 ∨ 237 < a) : cV h' a = cV h a := cV_congr (fun k _ _ => by rw [f a (by omega)]) (fun j k _ _ _ _ => by rw [f (a + j) (by omega)])
theorem SC.ro {h h' : Mem} (f : SC h h') (r : RO h) : RO h' := fun j j0 j1 => by rw [f _ (by omega)]; exact r j j0 j1
theorem SC.cs {h h' : Mem} {σ : ST} (f : SC h h') (hC : CS h σ) : CS h' σ := hC.fr (fun c hc => f c (by unfold KC at hc; omega))
def rndN (V : VW) : Nat → VW
  | 0 => V
  | k + 1 => rnd (rndN V k)
theorem rndN_wf {V : VW} (hV : WFv V) : ∀ k : Nat, WFv (rndN V k)
  | 0 => hV
  | k + 1 => rnd_wf (rndN_wf hV k)
theorem rndN_0 {V : VW} : ∀ (k : Nat) (j : Int), rndN V k 0 j = V 0 j
  | 0, _ => rfl
  | k + 1, j => by
    show (if 0 = 3 ∧ 0 ≤ j ∧ j < rndN V k 0 0 then pag (rndN V k) j else rndN V k 0 j) = V 0 j
    rw [if_neg (by omega)]; exact rndN_0 k j
def lieP (V : VW) : Nat → Bool := fun i => decide (V 1 i ≤ 3 ∧ V 3 (V 2 i) ≠ pag V (V 2 i))
def movP (V : VW) (w : Int) : Nat → Bool := fun i => decide (stand V (ex1 w) i ≠ stand V zz i)
def lastW (V : VW) (i x : Int) : Int := lastG (settles false (bgn (setV V 2 i x))).1
/-- the greatest of now + 1 .. now + m by which the last page is p; or now -/
def widS (V : VW) (i now p : Int) : Nat → Int
  | 0 => now
  | m + 1 => if lastW V i (now + ((m + 1 : Nat) : Int)) = p then now + ((m + 1 : Nat) : Int) else widS V i now p m
def resS (V : VW) : Nat → Int → Int
  | 0, _ => -1000000
  | m + 1, f => if 0 < (settles true (bgn (setV V 0 3 f))).2.2.1 then f else resS V m (f + 1)
theorem bgn_0 {V : VW} {k : Int} (h0 : 0 ≤ k) (h1 : k < 5) : bgn V 0 k = V 0 k := (cut_0 h0 h1).trans (by rw [if_neg (by decide), if_neg (by decide)])
theorem bgn_j {V : VW} {j : Nat} {k : Int} (hj : 1 ≤ j ∧ j ≤ 4) (h0 : 0 ≤ k) (h1 : k < V 0 0) : bgn V j k = if j = 3 then V 0 3 else if j = 4 then 0 else V j k := cut_j (by omega) (by omega) h0 h1
theorem bgn_wf {V : VW} (hV : WFv V) : WFv (bgn V) := by
  obtain ⟨c1, c2, c3, c4, c5, c6, c7, c8, hi⟩ := hV
  unfold WFv
  rw [bgn_0 (k := 0) (by omega) (by omega), bgn_0 (k := 1) (by omega) (by omega), bgn_0 (k := 2) (by omega) (by omega), bgn_0 (k := 3) (by omega) (by omega)]
  refine ⟨c1, c2, c3, c4, c5, c6, c7, c8, fun i h0 h1 => ?_⟩
  obtain ⟨k1, k2, k3, k4, k5, k6, k7, k8⟩ := hi i h0 h1
  rw [bgn_j (j := 1) (by omega) h0 h1, bgn_j (j := 2) (by omega) h0 h1, bgn_j (j := 3) (by omega) h0 h1, bgn_j (j := 4) (by omega) h0 h1, if_neg (by decide), if_neg (by decide), if_neg (by decide), if_neg (by decide), if_pos rfl, if_neg (by decide), if_pos rfl]
  exact ⟨k1, k2, k3, k4, c7, by omega, by omega, by omega⟩
theorem setV2_wf {V : VW} {i x : Int} (hV : WFv V) (hk : V 1 i ≤ 3 → 0 ≤ x ∧ x < V 0 0) (hk4 : V 1 i = 4 → 1 ≤ x ∧ x ≤ 20) : WFv (setV V 2 i x) := by
  obtain ⟨c1, c2, c3, c4, c5, c6, c7, c8, hi⟩ := hV
  refine ⟨c1, c2, c3, c4, c5, c6, c7, c8, fun k h0 h1 => ?_⟩
  obtain ⟨k1, k2, k3, k4, k5, k6, k7, k8⟩ := hi k h0 h1
  have e : setV V 2 i x 2 k = if k = i then x else V 2 k := by
    unfold setV
    by_cases z : k = i
    · rw [if_pos ⟨rfl, z⟩, if_pos z]
    · rw [if_neg (by omega), if_neg z]
  refine ⟨k1, k2, fun z => ?_, fun z => ?_, k5, k6, k7, k8⟩
  · rw [e]
    have z2 : V 1 k ≤ 3 := z
    by_cases zz : k = i
    · rw [if_pos zz]; exact hk (zz ▸ z2)
    · rw [if_neg zz]; exact k3 z2
  · rw [e]
    have z2 : V 1 k = 4 := z
    by_cases zz : k = i
    · rw [if_pos zz]; exact hk4 (zz ▸ z2)
    · rw [if_neg zz]; exact k4 z2
theorem setV0_wf {V : VW} {x : Int} (hV : WFv V) (h0 : 1 ≤ x) (h1 : x ≤ 87) : WFv (setV V 0 3 x) := by
  obtain ⟨c1, c2, c3, c4, c5, c6, c7, c8, hi⟩ := hV
  exact ⟨c1, c2, c3, c4, c5, c6, h0, h1, hi⟩
section FOR
variable {e q n L : Nat} {h : Mem}
set_option maxHeartbeats 1000000 in
theorem l_behind {Q : Option AV → Tp → Mem → Prop} {V : VW} {it : Int} {N : Nat} (hV : WFv V) (hro : RO h) (i0 : 0 ≤ it) (i1 : it < V 0 0) (hN : N ≤ 60) (hk : ∀ hh : Mem, SC h hh → Q (some (vI (rndN V N 3 it))) (TT e q n L) hh) :
    ∀ (m : Nat) (k : Nat) (hh : Mem), k + m = N → SC h hh → cV hh 21 = rndN V k → AW M_X1_guessBehind 0 0 Q 13 [some (vR 232), some (vI it), some (vI N), some (vI k)] [] (TT e q n L) hh 0 0 := by
  intro m
  induction m with
  | zero =>
    intro k hh hi hf hc
    have ek : k = N := by omega
    subst ek
    have e0 : hh 21 0 = V 0 0 := by rw [← cVc (h := hh), hc, rndN_0]
    have w := (rndN_wf hV k).2.1
    rw [rndN_0] at w
    have z := hk hh hf
    rw [← hc, cV3 i0 (by omega)] at z
    refine aw_iload_n dX1_guessBehind_13 rfl ?_
    refine aw_iload_n dX1_guessBehind_14 rfl ?_
    refine aw_icmp_ge 36 dX1_guessBehind_15 rfl (fun c15 => ?_) (fun c15 => ?_)
    · refine aw_aload_n dX1_guessBehind_36 rfl ?_
      refine aw_getR1 dX1_guessBehind_37 fx_RX1_26 (by first | rfl | assumption) (by first | rfl | assumption) ?_
      refine aw_getR1 dX1_guessBehind_40 fx_RX1_48 (by first | rfl | assumption) (by first | rfl | assumption) ?_
      refine aw_iload_n dX1_guessBehind_43 rfl ?_
      refine aw_iaload dX1_guessBehind_44 (by first | rfl | assumption) (by omega) (by omega) ?_
      refine aw_ireturn dX1_guessBehind_45 rfl (Nat.le_refl _) (Nat.le_refl _) ?_
      exact z
    · exfalso; omega
  | succ m ih =>
    intro k hh hi hf hc
    refine aw_iload_n dX1_guessBehind_13 rfl ?_
    refine aw_iload_n dX1_guessBehind_14 rfl ?_
    refine aw_icmp_ge 36 dX1_guessBehind_15 rfl (fun c15 => ?_) (fun c15 => ?_)
    · exfalso; omega
    · refine aw_aload_n dX1_guessBehind_18 rfl ?_
      refine aw_getR1 dX1_guessBehind_19 fx_RX1_29 (by first | rfl | assumption) (by first | rfl | assumption) ?_
      refine aw_aload_n dX1_guessBehind_22 rfl ?_
      refine aw_getR1 dX1_guessBehind_23 fx_RX1_26 (by first | rfl | assumption) (by first | rfl | assumption) ?_
      refine aw_v1q dX1_guessBehind_26 vl_RX1_42 (by first | rfl | assumption) (Nat.le_of_ble_eq_true rfl) (Nat.le_of_ble_eq_true rfl) (Nat.le_of_ble_eq_true rfl) (Nat.le_refl _) (Nat.le_refl _) (c_X6_goRound sh_21 isSe (by decide) (hf.ro hro) (by rw [hc]; exact rndN_wf hV k)) ?_
      intro v t' h3 hq
      obtain ⟨rfl, rfl, f3, f4⟩ := hq
      rw [hc] at f3
      refine aw_pop dX1_guessBehind_29 rfl ?_
      refine aw_iinc (ls' := [_, _, _, _]) dX1_guessBehind_30 (by decide) rfl (by omega) (by omega) rfl ?_
      refine aw_goto 13 dX1_guessBehind_33 rfl ?_
      exact ih (k + 1) h3 (by omega) (fun c hc2 => by rw [f4 c (by omega) (by omega)]; exact hf c hc2) f3
theorem c_X1_guessBehind {it k : Int} (hro : RO h) (hV : WFv (cV h 16)) (i0 : 0 ≤ it) (i1 : it < h 16 0) (k0 : 0 ≤ k) (k1 : k ≤ 60) : Sem M_X1_guessBehind [vR 232, vI it, vI k] (TT e q n L) h 0 0 (fun v t' h' => v = some (vI (rndN (cV h 16) k.toNat 3 it)) ∧ t' = TT e q n L ∧ SC h h') := by
  have w2 := hV.2.1
  rw [cVc] at w2
  obtain ⟨N, rfl⟩ : ∃ N : Nat, k = (N : Int) := ⟨k.toNat, by omega⟩
  refine sem_intro (by decide) rfl (Nat.le_of_ble_eq_true rfl) rfl ?_
  refine aw_aload_n dX1_guessBehind_0 rfl ?_
  refine aw_getR1 dX1_guessBehind_1 fx_RX1_26 (by first | rfl | assumption) (by first | rfl | assumption) ?_
  refine aw_aload_n dX1_guessBehind_4 rfl ?_
  refine aw_getR1 dX1_guessBehind_5 fx_RX1_22 (by first | rfl | assumption) (by first | rfl | assumption) ?_
  refine aw_v1q dX1_guessBehind_8 vl_RX1_36 (by first | rfl | assumption) (Nat.le_of_ble_eq_true rfl) (Nat.le_of_ble_eq_true rfl) (Nat.le_of_ble_eq_true rfl) (Nat.le_refl _) (Nat.le_refl _) (c_X7_takeFrom sh_21 sh_16 (by decide) (by omega)) ?_
  intro v t' h1 hq
  obtain ⟨rfl, rfl, f1, f2⟩ := hq
  refine aw_iconst dX1_guessBehind_11 (by decide) (by decide) ?_
  refine aw_istore_n (ls' := [_, _, _, _]) dX1_guessBehind_12 (by decide) rfl ?_
  exact l_behind (N := N) (V := cV h 16) hV hro i0 (by rw [cVc]; exact i1) (by omega) (fun hh f => ⟨rfl, rfl, f⟩) N 0 h1 (by omega) (fun c hc => f2 c (by omega)) f1
set_option maxHeartbeats 1000000 in
theorem l_lying {h1 : Mem} {Q : Option AV → Tp → Mem → Prop} (hV : WFv (cV h1 16)) (hD : Done (cV h1 16) zz 27 h1 (h1 16 0).toNat) (hk : Q (some (vI (bset (lieP (cV h1 16)) (h1 16 0).toNat))) (TT e q n L) h1) :
    ∀ (m : Nat) (k : Nat), (k : Int) + m = h1 16 0 → AW M_X1_lying 0 0 Q 16 [some (vR 232), some (vR 27), some (vI (bset (lieP (cV h1 16)) k)), some (vI k), none] [] (TT e q n L) h1 0 0 := by
  have w2 := hV.2.1
  rw [cVc] at w2
  intro m
  induction m with
  | zero =>
    intro k hi
    have e1 : (h1 16 0).toNat = k := by omega
    rw [e1] at hk
    refine aw_iload_n dX1_lying_16 rfl ?_
    refine aw_aload_n dX1_lying_17 rfl ?_
    refine aw_getR1 dX1_lying_18 fx_RX1_22 (by first | rfl | assumption) (by first | rfl | assumption) ?_
    refine aw_getI dX1_lying_21 fx_RX1_55 (by first | rfl | assumption) ?_
    refine aw_icmp_ge 93 dX1_lying_24 rfl (fun c24 => ?_) (fun c24 => ?_)
    · refine aw_iload_n dX1_lying_93 rfl ?_
      refine aw_ireturn dX1_lying_94 rfl (Nat.le_refl _) (Nat.le_refl _) ?_
      exact hk
    · exfalso; omega
  | succ m ih =>
    intro k hi
    have z := ih (k + 1) (by omega)
    have wi := hV.2.2.2.2.2.2.2.2 k (by omega) (by rw [cVc]; omega)
    have k1 : cV h1 16 1 k = h1 (16 + 1) k := cV1 (by omega) (by omega)
    have k2 : cV h1 16 2 k = h1 (16 + 2) k := cV2 (by omega) (by omega)
    rw [k1, k2, cVc] at wi
    have el : lieP (cV h1 16) k = decide (h1 (16 + 1) k ≤ 3 ∧ cV h1 16 3 (h1 (16 + 2) k) ≠ pag (cV h1 16) (h1 (16 + 2) k)) := by unfold lieP; rw [k1, k2]
    have hg : 0 ≤ h1 (16 + 2) k ∧ h1 (16 + 2) k < h1 16 0 → cV h1 16 3 (h1 (16 + 2) k) = h1 (16 + 3) (h1 (16 + 2) k) ∧ pag (cV h1 16) (h1 (16 + 2) k) = h1 (27 + 1) (h1 (16 + 2) k) := fun y => ⟨cV3 y.1 y.2, by
      have := (hD (h1 (16 + 2) k).toNat (by omega)).1
      rw [am_nat y.1] at this
      exact this.symm⟩
    have tl : ∀ (x4 : Option AV) (b : Int), bset (lieP (cV h1 16)) (k + 1) = b → AW M_X1_lying 0 0 Q 87 [some (vR 232), some (vR 27), some (vI b), some (vI k), x4] [] (TT e q n L) h1 0 0 := by
      intro x4 b hb
      rw [hb] at z
      refine aw_iinc (ls' := [_, _, _, _, _]) dX1_lying_87 (by decide) rfl (by omega) (by omega) rfl ?_
      refine aw_goto 16 dX1_lying_90 rfl ?_
      exact aw_less (by repeat' (first | exact trivial | exact rfl | apply And.intro)) z
    refine aw_iload_n dX1_lying_16 rfl ?_
    refine aw_aload_n dX1_lying_17 rfl ?_
    refine aw_getR1 dX1_lying_18 fx_RX1_22 (by first | rfl | assumption) (by first | rfl | assumption) ?_
    refine aw_getI dX1_lying_21 fx_RX1_55 (by first | rfl | assumption) ?_
    refine aw_icmp_ge 93 dX1_lying_24 rfl (fun c24 => ?_) (fun c24 => ?_)
    · exfalso; omega
    · refine aw_aload_n dX1_lying_27 rfl ?_
      refine aw_getR1 dX1_lying_28 fx_RX1_22 (by first | rfl | assumption) (by first | rfl | assumption) ?_
      refine aw_getR1 dX1_lying_31 fx_RX1_59 (by first | rfl | assumption) (by first | rfl | assumption) ?_
      refine aw_iload_n dX1_lying_34 rfl ?_
      refine aw_iaload dX1_lying_35 (by first | rfl | assumption) (by omega) (by omega) ?_
      refine aw_istore (ls' := [_, _, _, _, _]) dX1_lying_36 (by decide) rfl ?_
      refine aw_aload_n dX1_lying_38 rfl ?_
      refine aw_getR1 dX1_lying_39 fx_RX1_22 (by first | rfl | assumption) (by first | rfl | assumption) ?_
      refine aw_iload_n dX1_lying_42 rfl ?_
      refine aw_v1i dX1_lying_43 vl_RX1_62 (by first | rfl | assumption) (Nat.le_of_ble_eq_true rfl) (Nat.le_of_ble_eq_true rfl) (Nat.le_of_ble_eq_true rfl) (Nat.le_refl _) (Nat.le_refl _) (c_X7_isReference sh_16 (by omega) (by omega)) ?_
      refine aw_ifB_eq 87 dX1_lying_46 rfl (fun c46 => ?_) (fun c46 => ?_)
      · exact tl _ _ (bset_f (by rw [el]; exact decide_eq_false (fun y => by omega)))
      · refine aw_aload_n dX1_lying_49 rfl ?_
        refine aw_getR1 dX1_lying_50 fx_RX1_22 (by first | rfl | assumption) (by first | rfl | assumption) ?_
        refine aw_iload dX1_lying_53 rfl ?_
        refine aw_v1i dX1_lying_55 vl_RX1_66 (by first | rfl | assumption) (Nat.le_of_ble_eq_true rfl) (Nat.le_of_ble_eq_true rfl) (Nat.le_of_ble_eq_true rfl) (Nat.le_refl _) (Nat.le_refl _) (c_X7_holds sh_16) ?_
        refine aw_ifB_eq 87 dX1_lying_58 rfl (fun c58 => ?_) (fun c58 => ?_)
        · exfalso; omega
        · refine aw_aload_n dX1_lying_61 rfl ?_
          refine aw_getR1 dX1_lying_62 fx_RX1_22 (by first | rfl | assumption) (by first | rfl | assumption) ?_
          refine aw_getR1 dX1_lying_65 fx_RX1_48 (by first | rfl | assumption) (by first | rfl | assumption) ?_
          refine aw_iload dX1_lying_68 rfl ?_
          refine aw_iaload dX1_lying_70 (by first | rfl | assumption) (by omega) (by omega) ?_
          refine aw_aload_n dX1_lying_71 rfl ?_
          refine aw_getR1 dX1_lying_72 fx_RX1_69 (by first | rfl | assumption) (by first | rfl | assumption) ?_
          refine aw_iload dX1_lying_75 rfl ?_
          refine aw_iaload dX1_lying_77 (by first | rfl | assumption) (by omega) (by omega) ?_
          refine aw_icmp_eq 87 dX1_lying_78 rfl (fun c78 => ?_) (fun c78 => ?_)
          · exact tl _ _ (bset_f (by rw [el]; exact decide_eq_false (fun y => y.2 (by rw [(hg (by omega)).1, (hg (by omega)).2]; exact c78))))
          · refine aw_iload_n dX1_lying_81 rfl ?_
            refine aw_iconst dX1_lying_82 (by decide) (by decide) ?_
            refine aw_iload_n dX1_lying_83 rfl ?_
            refine aw_ishlw dX1_lying_84 ?_
            refine aw_iorw dX1_lying_85 ?_
            refine aw_istore_n (ls' := [_, _, _, _, _]) dX1_lying_86 (by decide) rfl ?_
            exact tl _ _ (bset_t (by rw [el]; exact decide_eq_true ⟨by omega, fun y => c78 (by rw [← (hg (by omega)).1, ← (hg (by omega)).2]; exact y)⟩))
theorem c_X1_lying (hro : RO h) (hV : WFv (cV h 16)) : Sem M_X1_lying [vR 232] (TT e q n L) h 0 0 (fun v t' h' => v = some (vI (bset (lieP (cV h 16)) (h 16 0).toNat)) ∧ t' = TT e q n L ∧ SC h h') := by
  have w1 := hV.1
  rw [cVc] at w1
  refine sem_intro (by decide) rfl (Nat.le_of_ble_eq_true rfl) rfl ?_
  refine aw_aload_n dX1_lying_0 rfl ?_
  refine aw_getR1 dX1_lying_1 fx_RX1_29 (by first | rfl | assumption) (by first | rfl | assumption) ?_
  refine aw_aload_n dX1_lying_4 rfl ?_
  refine aw_getR1 dX1_lying_5 fx_RX1_22 (by first | rfl | assumption) (by first | rfl | assumption) ?_
  refine aw_v1q dX1_lying_8 vl_RX1_51 (by first | rfl | assumption) (Nat.le_of_ble_eq_true rfl) (Nat.le_of_ble_eq_true rfl) (Nat.le_of_ble_eq_true rfl) (Nat.le_refl _) (Nat.le_refl _) (c_X6_outlined sh_16 isSe (by decide) hro hV) ?_
  intro v t' h1 hq
  obtain ⟨rfl, rfl, f1, f2⟩ := hq
  have eV : cV h1 16 = cV h 16 := f1.cV (by decide)
  have e0 : h1 16 0 = h 16 0 := by rw [f1 16 (by decide)]
  refine aw_astore_n (ls' := [_, _, _, _, _]) dX1_lying_11 (by decide) rfl ?_
  refine aw_iconst dX1_lying_12 (by decide) (by decide) ?_
  refine aw_istore_n (ls' := [_, _, _, _, _]) dX1_lying_13 (by decide) rfl ?_
  refine aw_iconst dX1_lying_14 (by decide) (by decide) ?_
  refine aw_istore_n (ls' := [_, _, _, _, _]) dX1_lying_15 (by decide) rfl ?_
  refine aw_less ?_ (l_lying (h1 := h1) (by rw [eV]; exact hV) (by rw [eV, e0]; exact f2) ⟨by rw [eV, e0], rfl, fun c hc => f1 c (by omega)⟩ (h1 16 0).toNat 0 (by omega))
  exact (by repeat' (first | exact trivial | exact rfl | apply And.intro))
end FOR
