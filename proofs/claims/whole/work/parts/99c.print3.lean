/-! signOf, print -/
def prV (V : VW) (i j : Int) : Int := if sgn (V 1 i) (V 3 (V 2 i)) ≤ j then (if j < V 4 i then 32 else -1000000) else prS (V 1 i) (V 3 (V 2 i)) j
section PR3
variable {e q n L : Nat} {h : Mem} {V : VW}
theorem tx_TT (h1 : 389 ≤ n) (h2 : n % 2 = 1) (h3 : n + 2 ≤ 1000000) : IsTx (TT e q (n + 2) L) n := by
  refine ⟨?_, ?_, ?_, by omega⟩
  · show sh_a (n + 2) L n = _
    unfold sh_a
    rw [if_neg (by omega), if_neg (by omega), if_pos (by omega), if_pos (by omega), if_pos (by omega)]
  · show sh_a (n + 2) L (n + 1) = _
    unfold sh_a
    rw [if_neg (by omega), if_neg (by omega), if_pos (by omega), if_pos (by omega), if_neg (by omega)]
  · show rf_a e q n 0 = _
    unfold rf_a
    rw [if_neg (by omega), if_neg (by omega), if_neg (by omega), if_neg (by omega), if_pos (by omega), if_pos ⟨h2, rfl⟩]
def QSi (x : Int) (h : Mem) (e q n L : Nat) : Option AV → Tp → Mem → Prop := fun v t' h' => v = some (vI x) ∧ t' = TT e q (n + 2) L ∧ ∀ c, c ≠ n → c ≠ n + 1 → h' c = h c
set_option maxHeartbeats 4000000 in
theorem c_X7_signOf {i j : Int} (n1 : 389 ≤ n) (n2 : n % 2 = 1) (n3 : n + 2 ≤ 1000000) (hd : DG h) (hv : cV h 16 = V) (hV : WFv V) (i0 : 0 ≤ i) (i1 : i < V 0 0) (hk : V 1 i ≤ 3) (j0 : 0 ≤ j) : Sem M_X7_signOf [vR 16, vI i, vI j] (TT e q n L) h 2 20 (QSi (prV V i j) h e q n L) := by
  have v2 := hV.2.1
  have wi := hV.2.2.2.2.2.2.2.2 i i0 i1
  obtain ⟨w1, w2⟩ := wi.2.2.1 hk
  have wj := hV.2.2.2.2.2.2.2.2 (V 2 i) w1 w2
  have c0 : h 16 0 = V 0 0 := by rw [← hv, cVc]
  have hx := tx_TT (e := e) (q := q) (L := L) n1 n2 n3
  have hx0 := hx.1
  obtain ⟨pg, hpg⟩ : ∃ pg, pg = V 3 (V 2 i) := ⟨_, rfl⟩
  obtain ⟨kd, hkd⟩ : ∃ kd, kd = V 1 i := ⟨_, rfl⟩
  have p1 : 1 ≤ pg := by omega
  have p2 : pg ≤ 98 := by omega
  have sb := sgn_bd (k := kd) (p := pg) (by omega) (by omega)
  have rb1 := rs_bd (f := pg / 10) (by omega) (by omega)
  have rb2 := rs_bd (f := pg % 10) (by omega) (by omega)
  have t108 : ∀ (hh : Mem) (N : Nat) (G : Nat → Int) (ck sk : Nat), ck ≤ 2 → sk ≤ 20 → TXh hh n N G → (N : Int) = sgn kd pg → (∀ k : Nat, k < N → G k = prS kd pg k) → (∀ c, c ≠ n → c ≠ n + 1 → hh c = h c) → AW M_X7_signOf 2 20 (QSi (prV V i j) h e q n L) 108 [some (vR 16), some (vI i), some (vI j), some (vR n), some (vI pg)] [] (TT e q (n + 2) L) hh ck sk := by
    intro hh N G ck sk hck hsk hT hN hG hf
    have f4 : hh (16 + 4) i = V 4 i := by rw [hf _ (by omega) (by omega), ← hv, cV4 i0 (by omega)]
    have t3 := hT.2.1
    unfold prV
    rw [← hkd, ← hpg]
    obtain ⟨J, hJ⟩ : ∃ J : Nat, j = (J : Int) := ⟨j.toNat, by omega⟩
    have eJ : J < N → G J = prS kd pg j := fun y => by rw [hG J y, hJ]
    have hch : J < N → SemE M_J4_charAt_5068e [vR n, vI j] (TT e q (n + 2) L) hh (some (vI (G J))) (TT e q (n + 2) L) hh := fun y => by rw [hJ]; exact c_J4_charAt hx hT y
    refine aw_iload_n dX7_signOf_108 rfl ?_
    refine aw_if_lt 126 dX7_signOf_109 rfl (fun c109 => ?_) (fun c109 => ?_)
    · exfalso; omega
    · refine aw_iload_n dX7_signOf_112 rfl ?_
      refine aw_aload_n dX7_signOf_113 rfl ?_
      refine aw_v0i dX7_signOf_114 vl_RX7_82 (by first | rfl | assumption) (Nat.le_of_ble_eq_true rfl) (Nat.le_of_ble_eq_true rfl) (Nat.le_of_ble_eq_true rfl) (by omega) (by omega) (c_J4_length hx) ?_
      rw [t3]
      refine aw_icmp_ge 126 dX7_signOf_117 rfl (fun c117 => ?_) (fun c117 => ?_)
      · refine aw_iload_n dX7_signOf_126 rfl ?_
        refine aw_aload_n dX7_signOf_127 rfl ?_
        refine aw_getR1 dX7_signOf_128 fx_RX7_21 (by first | rfl | assumption) (by first | rfl | assumption) ?_
        refine aw_iload_n dX7_signOf_131 rfl ?_
        refine aw_iaload dX7_signOf_132 (by first | rfl | assumption) (by omega) (by omega) ?_
        rw [f4]
        refine aw_icmp_ge 141 dX7_signOf_133 rfl (fun c133 => ?_) (fun c133 => ?_)
        · refine aw_ldc (n := -1000000) dX7_signOf_141 kc_RX7_90 (by decide) ?_
          refine aw_ireturn dX7_signOf_143 rfl (by omega) (by omega) ?_
          rw [if_pos (by omega)]
          first | (rw [if_pos (by omega)]; exact ⟨rfl, rfl, hf⟩) | (rw [if_neg (by omega)]; exact ⟨rfl, rfl, hf⟩)
        · refine aw_bipush dX7_signOf_136 (by decide) (by decide) ?_
          refine aw_goto 143 dX7_signOf_138 rfl ?_
          refine aw_ireturn dX7_signOf_143 rfl (by omega) (by omega) ?_
          rw [if_pos (by omega)]
          first | (rw [if_pos (by omega)]; exact ⟨rfl, rfl, hf⟩) | (rw [if_neg (by omega)]; exact ⟨rfl, rfl, hf⟩)
      · refine aw_aload_n dX7_signOf_120 rfl ?_
        refine aw_iload_n dX7_signOf_121 rfl ?_
        refine aw_v1i dX7_signOf_122 vl_RX7_86 (by first | rfl | assumption) (Nat.le_of_ble_eq_true rfl) (Nat.le_of_ble_eq_true rfl) (Nat.le_of_ble_eq_true rfl) (by omega) (by omega) (hch (by omega)) ?_
        refine aw_ireturn dX7_signOf_125 rfl (by omega) (by omega) ?_
        rw [if_neg (by omega)]
        exact ⟨am_ri (eJ (by omega)), rfl, hf⟩
  have k1 : ∀ hh : Mem, (∀ c, c ≠ n → c ≠ n + 1 → hh c = h c) → hh (16 + 1) i = kd ∧ hh (16 + 2) i = V 2 i ∧ hh (16 + 3) (V 2 i) = pg ∧ hh 16 0 = V 0 0 := fun hh hf => ⟨by rw [hf _ (by omega) (by omega), hkd, ← hv, cV1 i0 (by omega)], by rw [hf _ (by omega) (by omega), ← hv, cV2 i0 (by omega)], by rw [hf _ (by omega) (by omega), hpg, ← hv, cV3 (by rw [hv]; exact w1) (by rw [hv]; omega)], by rw [hf _ (by omega) (by omega)]; exact c0⟩
  have t91 : ∀ (hh : Mem) (N : Nat) (G : Nat → Int) (ck sk : Nat), ck ≤ 2 → sk ≤ 20 → N ≤ 8 → TXh hh n N G → (N : Int) = sgn kd pg - (if kd = 3 then 1 else 0) → (∀ k : Nat, k < N → G k = prS kd pg k) → (∀ c, c ≠ n → c ≠ n + 1 → hh c = h c) → AW M_X7_signOf 2 20 (QSi (prV V i j) h e q n L) 91 [some (vR 16), some (vI i), some (vI j), some (vR n), some (vI pg)] [] (TT e q (n + 2) L) hh ck sk := by
    intro hh N G ck sk hck hsk hN8 hT hN hG hf
    obtain ⟨a1, a2, a3, a4⟩ := k1 hh hf
    refine aw_aload_n dX7_signOf_91 rfl ?_
    refine aw_getR1 dX7_signOf_92 fx_RX7_9 (by first | rfl | assumption) (by first | rfl | assumption) ?_
    refine aw_iload_n dX7_signOf_95 rfl ?_
    refine aw_iaload dX7_signOf_96 (by first | rfl | assumption) (by omega) (by omega) ?_
    rw [a1]
    refine aw_iconst dX7_signOf_97 (by decide) (by decide) ?_
    refine aw_icmp_ne 108 dX7_signOf_98 rfl (fun c98 => ?_) (fun c98 => ?_)
    · rw [if_neg c98] at hN
      exact t108 hh N G ck sk hck hsk hT (by omega) hG hf
    · refine aw_aload_n dX7_signOf_101 rfl ?_
      refine aw_bipush dX7_signOf_102 (by decide) (by decide) ?_
      refine aw_v1q dX7_signOf_104 vl_RX7_79 (by first | rfl | assumption) (Nat.le_of_ble_eq_true rfl) (Nat.le_of_ble_eq_true rfl) (Nat.le_of_ble_eq_true rfl) (by omega) (by omega) (c_J4_appendC hx hT (by omega) (by decide) (by decide)) ?_
      intro v t' h1 hq
      obtain ⟨rfl, rfl, g1, g2⟩ := hq
      rw [if_pos c98] at hN
      refine aw_pop dX7_signOf_107 rfl ?_
      refine t108 h1 (N + 1) _ _ _ (by omega) (by omega) g1 (by omega) (fun k hk2 => ?_) (fun c d1 d2 => by rw [g2 c d1 d2]; exact hf c d1 d2)
      try dsimp only
      by_cases w : k = N
      · rw [if_pos w]
        unfold prS
        rw [if_neg (by omega), if_pos (by omega)]
      · rw [if_neg w]; exact hG k (by omega)
  have tR : ∀ (h2 : Mem) (ck sk : Nat), ck ≤ 2 → sk ≤ 20 → kd = 2 → TXh h2 n (0 + (rs (pg / 10)).toNat + (rs (pg % 10)).toNat) (fun j => if j < 0 + (rs (pg / 10)).toNat then (if j < 0 then (0 : Int) else rsg (pg / 10) ((j : Int) - ((0 : Nat) : Int)) 120 108 99) else rsg (pg % 10) ((j : Int) - ((0 + (rs (pg / 10)).toNat : Nat) : Int)) 105 118 120) → (∀ c, c ≠ n → c ≠ n + 1 → h2 c = h c) → AW M_X7_signOf 2 20 (QSi (prV V i j) h e q n L) 91 [some (vR 16), some (vI i), some (vI j), some (vR n), some (vI pg)] [] (TT e q (n + 2) L) h2 ck sk := by
    intro h2 ck sk hck hsk k2 g3 hf
    refine t91 h2 _ _ ck sk hck hsk (by omega) g3 ?_ (fun k hk2 => ?_) hf
    · unfold sgn
      rw [if_pos k2, if_neg (by omega)]
      omega
    · try dsimp only
      unfold prS
      rw [if_pos k2]
      by_cases w : (k : Int) < rs (pg / 10)
      · rw [if_pos (show k < 0 + (rs (pg / 10)).toNat by omega), if_neg (Nat.not_lt_zero k), if_pos w]
        exact congrArg (fun z => rsg (pg / 10) z 120 108 99) (by omega)
      · rw [if_neg (show ¬ k < 0 + (rs (pg / 10)).toNat by omega), if_neg w]
        exact congrArg (fun z => rsg (pg % 10) z 105 118 120) (by omega)
  have tF : ∀ (h2 : Mem) (ck sk : Nat), ck ≤ 2 → sk ≤ 20 → kd ≠ 2 → TXh h2 n (ndg pg) (dgs pg) → (∀ c, c ≠ n → c ≠ n + 1 → h2 c = h c) → AW M_X7_signOf 2 20 (QSi (prV V i j) h e q n L) 91 [some (vR 16), some (vI i), some (vI j), some (vR n), some (vI pg)] [] (TT e q (n + 2) L) h2 ck sk := by
    intro h2 ck sk hck hsk k2 g3 hf
    have nb : (pg < 10 ∧ ndg pg = 1) ∨ (¬ pg < 10 ∧ ndg pg = 2) := by
      unfold ndg
      by_cases y : pg < 10
      · exact Or.inl ⟨y, if_pos y⟩
      · exact Or.inr ⟨y, if_neg y⟩
    have es : sgn kd pg = (ndg pg : Int) + (if kd = 3 then 1 else 0) := by
      unfold sgn
      rw [if_neg k2]
      by_cases y : kd = 3
      · rw [if_pos y, if_pos y]
        by_cases z : pg < 10
        · rw [if_pos z]; omega
        · rw [if_neg z]; omega
      · rw [if_neg y, if_neg y]
        by_cases z : pg < 10
        · rw [if_pos z]; omega
        · rw [if_neg z]; omega
    refine t91 h2 _ _ ck sk hck hsk (by omega) g3 (by rw [es]; omega) (fun k hk2 => ?_) hf
    unfold prS dgs
    rw [if_neg k2]
    by_cases y : kd = 3
    · rw [if_pos y] at es
      rw [if_neg (show ¬ (kd = 3 ∧ (k : Int) = sgn kd pg - 1) by omega)]
      by_cases w : 9 < pg ∧ k = 0
      · rw [if_pos w, if_pos (by omega)]
      · rw [if_neg w, if_neg (by omega)]
    · rw [if_neg (show ¬ (kd = 3 ∧ (k : Int) = sgn kd pg - 1) by omega)]
      by_cases w : 9 < pg ∧ k = 0
      · rw [if_pos w, if_pos (by omega)]
      · rw [if_neg w, if_neg (by omega)]
  have t41 : ∀ (hh : Mem) (ck sk : Nat), ck ≤ 2 → sk ≤ 20 → TXh hh n 0 (fun _ => 0) → (∀ c, c ≠ n → c ≠ n + 1 → hh c = h c) → AW M_X7_signOf 2 20 (QSi (prV V i j) h e q n L) 41 [some (vR 16), some (vI i), some (vI j), some (vR n), some (vI pg)] [] (TT e q (n + 2) L) hh ck sk := by
    intro hh ck sk hck hsk hT hf
    obtain ⟨a1, a2, a3, a4⟩ := k1 hh hf
    have D2 : DG hh := fun a b0 b1 => by rw [hf _ (by omega) (by omega), hf _ (by omega) (by omega)]; exact hd a b0 b1
    refine aw_aload_n dX7_signOf_41 rfl ?_
    refine aw_getR1 dX7_signOf_42 fx_RX7_9 (by first | rfl | assumption) (by first | rfl | assumption) ?_
    refine aw_iload_n dX7_signOf_45 rfl ?_
    refine aw_iaload dX7_signOf_46 (by first | rfl | assumption) (by omega) (by omega) ?_
    rw [a1]
    refine aw_iconst dX7_signOf_47 (by decide) (by decide) ?_
    refine aw_icmp_ne 84 dX7_signOf_48 rfl (fun c48 => ?_) (fun c48 => ?_)
    · refine aw_aload_n dX7_signOf_84 rfl ?_
      refine aw_iload dX7_signOf_85 rfl ?_
      refine aw_v1q dX7_signOf_87 vl_RX7_75 (by first | rfl | assumption) (Nat.le_of_ble_eq_true rfl) (Nat.le_of_ble_eq_true rfl) (Nat.le_of_ble_eq_true rfl) (by omega) (by omega) (c_J4_appendI hx D2 rfl rfl hT (by omega) (by omega)) ?_
      intro v t' h1 hq
      obtain ⟨rfl, rfl, g1, g2⟩ := hq
      refine aw_pop dX7_signOf_90 rfl ?_
      first | exact tR h2 _ _ (by omega) (by omega) c48 g3 (fun c d1 d2 => by rw [g4 c d1 d2, g2 c d1 d2]; exact hf c d1 d2) | exact tF h1 _ _ (by omega) (by omega) c48 g1 (fun c d1 d2 => by rw [g2 c d1 d2]; exact hf c d1 d2)
    · refine aw_aload_n dX7_signOf_51 rfl ?_
      refine aw_iload dX7_signOf_52 rfl ?_
      refine aw_bipush dX7_signOf_54 (by decide) (by decide) ?_
      refine aw_idiv dX7_signOf_56 (by omega) (by omega) ?_
      refine aw_bipush dX7_signOf_57 (by decide) (by decide) ?_
      refine aw_bipush dX7_signOf_59 (by decide) (by decide) ?_
      refine aw_bipush dX7_signOf_61 (by decide) (by decide) ?_
      refine aw_s5q dX7_signOf_63 sl_RX7_71 (Nat.le_of_ble_eq_true rfl) (Nat.le_of_ble_eq_true rfl) (Nat.le_of_ble_eq_true rfl) (by omega) (by omega) (c_X7_appendRoman hx hT (by omega) (by omega) (by omega) (by decide) (by decide) (by decide) (by decide) (by decide) (by decide)) ?_
      intro v t' h1 hq
      obtain ⟨rfl, rfl, g1, g2⟩ := hq
      refine aw_aload_n dX7_signOf_66 rfl ?_
      refine aw_iload dX7_signOf_67 rfl ?_
      refine aw_bipush dX7_signOf_69 (by decide) (by decide) ?_
      refine aw_irem dX7_signOf_71 (by omega) (by omega) ?_
      refine aw_bipush dX7_signOf_72 (by decide) (by decide) ?_
      refine aw_bipush dX7_signOf_74 (by decide) (by decide) ?_
      refine aw_bipush dX7_signOf_76 (by decide) (by decide) ?_
      refine aw_s5q dX7_signOf_78 sl_RX7_71 (Nat.le_of_ble_eq_true rfl) (Nat.le_of_ble_eq_true rfl) (Nat.le_of_ble_eq_true rfl) (by omega) (by omega) (c_X7_appendRoman hx g1 (by omega) (by omega) (by omega) (by decide) (by decide) (by decide) (by decide) (by decide) (by decide)) ?_
      intro v t' h2 hq
      obtain ⟨rfl, rfl, g3, g4⟩ := hq
      refine aw_goto 91 dX7_signOf_81 rfl ?_
      first | exact tR h2 _ _ (by omega) (by omega) c48 g3 (fun c d1 d2 => by rw [g4 c d1 d2, g2 c d1 d2]; exact hf c d1 d2) | exact tF h1 _ _ (by omega) (by omega) c48 g1 (fun c d1 d2 => by rw [g2 c d1 d2]; exact hf c d1 d2)
  refine sem_intro (by decide) rfl (Nat.le_of_ble_eq_true rfl) rfl ?_
  refine aw_new dX7_signOf_0 nl_RX7_68 (show (TT e q n L).1 < 1000000 from (by show n < 1000000; omega)) (by omega) (by omega) ?_
  refine aw_dup dX7_signOf_3 rfl ?_
  refine aw_callI dX7_signOf_4 il_RX7_70 (c_J4_init (t := pT (TT e q n L) 0 4) (x := n) (if_pos rfl) (Nat.lt_succ_self n) (by show n + 1 < 1000000; omega)) rfl rfl (Nat.le_of_ble_eq_true rfl) (Nat.le_of_ble_eq_true rfl) (Nat.le_of_ble_eq_true rfl) (by omega) (by omega) ?_
  intro v t' h2 hq
  obtain ⟨rfl, ht, hh⟩ := hq
  have ht2 : t' = TT e q (n + 2) L := ht.trans (TT_tx n1 n2 n3)
  subst ht2
  have e0 : ∀ c, c ≠ n → c ≠ n + 1 → h2 c = h c := fun c d1 d2 => by
    rw [hh, am_up_ne d1]
    show (if c = n + 1 then (fun _ => 0) else if c = n then (fun _ => 0) else h c) = h c
    rw [if_neg d2, if_neg d1]
  have en : h2 n = fun _ => 0 := by
    funext k
    rw [hh]
    show (if n = n ∧ k = 1 then (0 : Int) else (if n = n + 1 then (fun _ => 0) else if n = n then (fun _ => (0 : Int)) else h n) k) = 0
    rw [if_neg (show ¬ n = n + 1 by omega), if_pos rfl]
    split <;> rfl
  have T0 : TXh h2 n 0 (fun _ => 0) := ⟨by rw [en], by rw [en]; rfl, by omega, fun j hj => absurd hj (Nat.not_lt_zero j)⟩
  obtain ⟨a1, a2, a3, a4⟩ := k1 h2 e0
  refine aw_astore_n (ls' := [_, _, _, _, _]) dX7_signOf_7 (by decide) rfl ?_
  refine aw_aload_n dX7_signOf_8 rfl ?_
  refine aw_aload_n dX7_signOf_9 rfl ?_
  refine aw_getR1 dX7_signOf_10 fx_RX7_15 (by first | rfl | assumption) (by first | rfl | assumption) ?_
  refine aw_iload_n dX7_signOf_13 rfl ?_
  refine aw_iaload dX7_signOf_14 (by first | rfl | assumption) (by omega) (by omega) ?_
  rw [a2]
  refine aw_v1i dX7_signOf_15 vl_RX7_56 (by first | rfl | assumption) (Nat.le_of_ble_eq_true rfl) (Nat.le_of_ble_eq_true rfl) (Nat.le_of_ble_eq_true rfl) (by omega) (by omega) (c_X7_holds sh_16) ?_
  refine aw_ifB_eq 35 dX7_signOf_18 rfl (fun c18 => ?_) (fun c18 => ?_)
  · exfalso; omega
  · refine aw_aload_n dX7_signOf_21 rfl ?_
    refine aw_getR1 dX7_signOf_22 fx_RX7_18 (by first | rfl | assumption) (by first | rfl | assumption) ?_
    refine aw_aload_n dX7_signOf_25 rfl ?_
    refine aw_getR1 dX7_signOf_26 fx_RX7_15 (by first | rfl | assumption) (by first | rfl | assumption) ?_
    refine aw_iload_n dX7_signOf_29 rfl ?_
    refine aw_iaload dX7_signOf_30 (by first | rfl | assumption) (by omega) (by omega) ?_
    rw [a2]
    refine aw_iaload dX7_signOf_31 (by first | rfl | assumption) (by omega) (by omega) ?_
    rw [a3]
    refine aw_goto 39 dX7_signOf_32 rfl ?_
    refine aw_istore (ls' := [_, _, _, _, _]) dX7_signOf_39 (by decide) rfl ?_
    exact t41 h2 _ _ (by omega) (by omega) T0 e0
end PR3
