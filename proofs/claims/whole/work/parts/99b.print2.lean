/-! the program's print -/
def uR (t : Tp) (a : Nat) (j : Int) (b : Nat) : Tp := (t.1, t.2.1, am_upR t.2.2 a j (some b))
theorem TXh.cg {h : Mem} {x n m : Nat} {g g' : Nat → Int} (hT : TXh h x n g) (e : m = n) (hg : ∀ j, j < n → g' j = g j) : TXh h x m g' := by
  subst e
  exact ⟨hT.1, hT.2.1, hT.2.2.1, fun j hj => by rw [hg j hj]; exact hT.2.2.2 j hj⟩
theorem TT_tx {e q n L : Nat} (h1 : 389 ≤ n) (h2 : n % 2 = 1) (h3 : n + 2 ≤ 1000000) : uR (pT (pT (TT e q n L) 0 4) 21 16) n 0 (n + 1) = TT e q (n + 2) L := by
  have ea : ∀ b, (pT (pT (TT e q n L) 0 4) 21 16).2.1 b = sh_a (n + 2) L b := fun b => by
    show (if b = n + 1 then ((21, 16) : Nat × Nat) else if b = n then (0, 4) else sh_a n L b) = sh_a (n + 2) L b
    by_cases y1 : b = n + 1
    · rw [if_pos y1, y1]
      unfold sh_a
      rw [if_neg (by omega), if_neg (by omega), if_pos (by omega), if_pos (by omega), if_neg (by omega)]
    · rw [if_neg y1]
      by_cases y2 : b = n
      · rw [if_pos y2, y2]
        unfold sh_a
        rw [if_neg (by omega), if_neg (by omega), if_pos (by omega), if_pos (by omega), if_pos (by omega)]
      · rw [if_neg y2]
        unfold sh_a
        by_cases y3 : b < 373
        · rw [if_pos y3, if_pos y3]
        · rw [if_neg y3, if_neg y3]
          by_cases y4 : b < 389
          · rw [if_pos y4, if_pos y4]
          · rw [if_neg y4, if_neg y4]
            by_cases y5 : b < 1000000
            · rw [if_pos y5, if_pos y5]
              by_cases y6 : b < n
              · rw [if_pos y6, if_pos (show b < n + 2 by omega)]
              · rw [if_neg y6, if_neg (show ¬ b < n + 2 by omega)]
            · rw [if_neg y5, if_neg y5]
  have er : ∀ b k, am_upR (pT (pT (TT e q n L) 0 4) 21 16).2.2 n 0 (some (n + 1)) b k = rf_a e q b k := fun b k => by
    unfold am_upR
    have big : ∀ c : Nat, 389 ≤ c → c < 1000000 → rf_a e q c k = if c % 2 = 1 ∧ k = 0 then some (c + 1) else none := fun c c0 c1 => by
      unfold rf_a
      rw [if_neg (by omega), if_neg (by omega), if_neg (by omega), if_neg (by omega), if_pos c1]
    by_cases y : b = n ∧ k = 0
    · rw [if_pos y, y.1, big n (by omega) (by omega), if_pos ⟨h2, y.2⟩]
    · rw [if_neg y]
      show (if b = n + 1 then none else if b = n then none else rf_a e q b k) = rf_a e q b k
      by_cases y1 : b = n + 1
      · rw [if_pos y1, y1, big (n + 1) (by omega) (by omega), if_neg (by omega)]
      · rw [if_neg y1]
        by_cases y2 : b = n
        · rw [if_pos y2, y2, big n (by omega) (by omega), if_neg (fun z => y ⟨y2, z.2⟩)]
        · rw [if_neg y2]
  show ((pT (pT (TT e q n L) 0 4) 21 16).1, (pT (pT (TT e q n L) 0 4) 21 16).2.1, am_upR (pT (pT (TT e q n L) 0 4) 21 16).2.2 n 0 (some (n + 1))) = (n + 2, sh_a (n + 2) L, rf_a e q)
  rw [funext ea, funext (fun b => funext (er b))]
  rfl
section PR2
variable {t : Tp} {h : Mem} {x n : Nat} {g : Nat → Int}
theorem c_J5_init (hx : t.2.1 x = (0, 4)) (hxl : x < t.1) (hl : t.1 < 1000000) : Sem M_J5_init_d00df [vR x, vI 16] t h 1 16 (EQ none (uR (pT t 21 16) x 0 t.1) (am_up (pH t h) x 1 0)) := by
  have hx' : (pT t 21 16).2.1 x = (0, 4) := by
    show (if x = t.1 then ((21, 16) : Nat × Nat) else t.2.1 x) = _
    rw [if_neg (by omega)]; exact hx
  refine sem_intro (by decide) rfl (Nat.le_of_ble_eq_true rfl) rfl ?_
  refine aw_aload_n dJ5_init_d00df_0 rfl ?_
  refine aw_objInit dJ5_init_d00df_1 oi_RJ5_3 (Nat.le_of_ble_eq_true rfl) (Nat.le_of_ble_eq_true rfl) ?_
  refine aw_gs_COMPACT_STRINGS dJ5_init_d00df_4 gs_RJ5_18 ?_
  refine aw_if_eq 25 dJ5_init_d00df_7 rfl (fun c7 => ?_) (fun c7 => ?_)
  · exfalso; omega
  · refine aw_aload_n dJ5_init_d00df_10 rfl ?_
    refine aw_iload_n dJ5_init_d00df_11 rfl ?_
    refine aw_newB (N := 16) dJ5_init_d00df_12 rfl (by decide) hl (by omega) (by omega) ?_
    refine aw_putR dJ5_init_d00df_14 fp_RJ5_15 (fun z => by first | rfl | cases z) (fun _ => ⟨rfl, rfl⟩) (by first | rfl | assumption) ?_
    refine aw_aload_n dJ5_init_d00df_17 rfl ?_
    refine aw_iconst dJ5_init_d00df_18 (by decide) (by decide) ?_
    refine aw_putB0 dJ5_init_d00df_19 fp_RJ5_22 (by first | rfl | assumption) ?_
    refine aw_goto 38 dJ5_init_d00df_22 rfl ?_
    refine aw_return dJ5_init_d00df_38 rfl (by omega) (by omega) ?_
    exact ⟨rfl, rfl, rfl⟩
theorem c_J4_init (hx : t.2.1 x = (0, 4)) (hxl : x < t.1) (hl : t.1 < 1000000) : Sem M_J4_init_da8c8 [vR x] t h 1 16 (EQ none (uR (pT t 21 16) x 0 t.1) (am_up (pH t h) x 1 0)) := by
  refine sem_intro (by decide) rfl (Nat.le_of_ble_eq_true rfl) rfl ?_
  refine aw_aload_n dJ4_init_da8c8_0 rfl ?_
  refine aw_bipush dJ4_init_da8c8_1 (by decide) (by decide) ?_
  refine aw_callI dJ4_init_da8c8_3 il_RJ4_1 (c_J5_init hx hxl hl) rfl rfl (Nat.le_of_ble_eq_true rfl) (Nat.le_of_ble_eq_true rfl) (Nat.le_of_ble_eq_true rfl) (by omega) (by omega) ?_
  intro v_ t_ h_ hq_
  obtain ⟨rfl, rfl, rfl⟩ := hq_
  refine aw_return dJ4_init_da8c8_6 rfl (by omega) (by omega) ?_
  exact ⟨rfl, rfl, rfl⟩
def QAr (x n : Nat) (g : Nat → Int) (h : Mem) (t : Tp) : Option AV → Tp → Mem → Prop := fun v t' h' => v = none ∧ t' = t ∧ TXh h' x n g ∧ ∀ c, c ≠ x → c ≠ x + 1 → h' c = h c
theorem l_rom {f a b c : Int} {n1 : Nat} {G : Nat → Int} (hx : IsTx t x) (f0 : 0 ≤ f) (f1 : f ≤ 9) (f5 : f % 5 ≠ 4) (a0 : 0 ≤ a) (a1 : a ≤ 127) (hn : n1 + 3 ≤ 16) (hG : ∀ j : Nat, n1 ≤ j → G j = a) {N : Nat} (hN : N = n1 + (f % 5).toNat) :
    ∀ (m i : Nat) (hh : Mem), (i : Int) + m = f % 5 → TXh hh x (n1 + i) G → (∀ c, c ≠ x → c ≠ x + 1 → hh c = h c) → AW M_X7_appendRoman 0 0 (QAr x N G h t) 43 [some (vR x), some (vI f), some (vI a), some (vI b), some (vI c), some (vI i)] [] t hh 0 0 := by
  have hx0 := hx.1
  intro m
  induction m with
  | zero =>
    intro i hh hi hT hf
    refine aw_iload dX7_appendRoman_43 rfl ?_
    refine aw_iload_n dX7_appendRoman_45 rfl ?_
    refine aw_iconst dX7_appendRoman_46 (by decide) (by decide) ?_
    refine aw_irem dX7_appendRoman_47 (by omega) (by omega) ?_
    refine aw_icmp_ge 63 dX7_appendRoman_48 rfl (fun c48 => ?_) (fun c48 => ?_)
    · refine aw_return dX7_appendRoman_63 rfl (Nat.le_refl _) (Nat.le_refl _) ?_
      exact ⟨rfl, rfl, hT.cg (by omega) (fun _ _ => rfl), hf⟩
    · exfalso; omega
  | succ m ih =>
    intro i hh hi hT hf
    have z := ih (i + 1)
    refine aw_iload dX7_appendRoman_43 rfl ?_
    refine aw_iload_n dX7_appendRoman_45 rfl ?_
    refine aw_iconst dX7_appendRoman_46 (by decide) (by decide) ?_
    refine aw_irem dX7_appendRoman_47 (by omega) (by omega) ?_
    refine aw_icmp_ge 63 dX7_appendRoman_48 rfl (fun c48 => ?_) (fun c48 => ?_)
    · exfalso; omega
    · refine aw_aload_n dX7_appendRoman_51 rfl ?_
      refine aw_iload_n dX7_appendRoman_52 rfl ?_
      refine aw_v1q dX7_appendRoman_53 vl_RX7_79 (by first | rfl | assumption) (Nat.le_of_ble_eq_true rfl) (Nat.le_of_ble_eq_true rfl) (Nat.le_of_ble_eq_true rfl) (Nat.le_refl _) (Nat.le_refl _) (c_J4_appendC hx hT (by omega) a0 a1) ?_
      intro v t' h1 hq
      obtain ⟨rfl, rfl, g1, g2⟩ := hq
      refine aw_pop dX7_appendRoman_56 rfl ?_
      refine aw_iinc (ls' := [_, _, _, _, _, _]) dX7_appendRoman_57 (by decide) rfl (by omega) (by omega) rfl ?_
      refine aw_goto 43 dX7_appendRoman_60 rfl ?_
      exact z h1 (by omega) (g1.cg (by omega) (fun j hj => by
        try dsimp only
        by_cases w : j = n1 + i
        · rw [if_pos w]; exact hG j (by omega)
        · rw [if_neg w])) (fun c c1 c2 => by rw [g2 c c1 c2]; exact hf c c1 c2)
theorem c_X7_appendRoman {f a b c : Int} (hx : IsTx t x) (hT : TXh h x n g) (hn : n + 4 ≤ 16) (f0 : 0 ≤ f) (f1 : f ≤ 9) (a0 : 0 ≤ a) (a1 : a ≤ 127) (b0 : 0 ≤ b) (b1 : b ≤ 127) (c0 : 0 ≤ c) (c1 : c ≤ 127) :
    Sem M_X7_appendRoman [vR x, vI f, vI a, vI b, vI c] t h 0 0 (QAr x (n + (rs f).toNat) (fun j => if j < n then g j else rsg f ((j : Int) - n) a b c) h t) := by
  have hx0 := hx.1
  have r4 : f % 5 = 4 → rs f = 2 ∧ (f = 9 ∨ f = 4) := fun y => by
    have : f = 9 ∨ f = 4 := by omega
    exact ⟨if_pos this, this⟩
  have r5 : f % 5 ≠ 4 → 5 ≤ f → rs f = 1 + f % 5 := fun y z => by unfold rs; rw [if_neg (by omega), if_pos (by omega)]; omega
  have r0 : f % 5 ≠ 4 → ¬ 5 ≤ f → rs f = f % 5 := fun y z => by unfold rs; rw [if_neg (by omega), if_neg (by omega)]; omega
  have fin4 : ∀ (h2 : Mem) (d : Int), f % 5 = 4 → d = (if f = 9 then c else b) → TXh h2 x (n + 1 + 1) (fun j => if j = n + 1 then d else if j = n then a else g j) → TXh h2 x (n + (rs f).toNat) (fun j => if j < n then g j else rsg f ((j : Int) - n) a b c) := fun h2 d y hd2 T2 => by
    obtain ⟨q1, q2⟩ := r4 y
    refine T2.cg (by rw [q1]; rfl) (fun j hj => ?_)
    try dsimp only
    unfold rsg
    by_cases w : j < n
    · rw [if_pos w, if_neg (by omega), if_neg (by omega)]
    · rw [if_neg w, if_pos q2]
      by_cases w2 : j = n
      · rw [if_pos (show (j : Int) - n = 0 by omega), if_neg (show ¬ j = n + 1 by omega), if_pos w2]
      · rw [if_neg (show ¬ (j : Int) - n = 0 by omega), if_pos (show j = n + 1 by omega), hd2]
  have t43 : f % 5 ≠ 4 → ∀ (h1 : Mem) (n1 : Nat), ((5 ≤ f ∧ n1 = n + 1) ∨ (¬ 5 ≤ f ∧ n1 = n)) → TXh h1 x n1 (fun j => if 5 ≤ f ∧ j = n then b else if j < n then g j else a) → (∀ c, c ≠ x → c ≠ x + 1 → h1 c = h c) → AW M_X7_appendRoman 0 0 (QAr x (n + (rs f).toNat) (fun j => if j < n then g j else rsg f ((j : Int) - n) a b c) h t) 43 [some (vR x), some (vI f), some (vI a), some (vI b), some (vI c), some (vI 0)] [] t h1 0 0 := by
    intro y h1 n1 hn1 T1 F1
    have eN : n + (rs f).toNat = n1 + (f % 5).toNat := by
      by_cases z : 5 ≤ f
      · rw [r5 y z]; omega
      · rw [r0 y z]; omega
    have eG : (fun j : Nat => if j < n then g j else rsg f ((j : Int) - n) a b c) = fun j => if 5 ≤ f ∧ j = n then b else if j < n then g j else a := by
      funext j
      unfold rsg
      by_cases w : j < n
      · rw [if_pos w, if_neg (by omega), if_pos w]
      · rw [if_neg w, if_neg (show ¬ (f = 9 ∨ f = 4) by omega)]
        by_cases w2 : 5 ≤ f ∧ j = n
        · rw [if_pos (by omega), if_pos w2]
        · rw [if_neg (by omega), if_neg w2, if_neg w]
    rw [eN, eG]
    exact l_rom (n1 := n1) hx f0 f1 y a0 a1 (by omega) (fun j hj => by rw [if_neg (by omega), if_neg (by omega)]) rfl (f % 5).toNat 0 h1 (by omega) T1 F1
  have tA : ∀ h1 : Mem, f % 5 ≠ 4 → 5 ≤ f → TXh h1 x (n + 1) (fun j => if j = n then b else g j) → (∀ c, c ≠ x → c ≠ x + 1 → h1 c = h c) → AW M_X7_appendRoman 0 0 (QAr x (n + (rs f).toNat) (fun j => if j < n then g j else rsg f ((j : Int) - n) a b c) h t) 43 [some (vR x), some (vI f), some (vI a), some (vI b), some (vI c), some (vI 0)] [] t h1 0 0 := fun h1 y z T1 F1 => by
    refine t43 y h1 (n + 1) (by omega) (T1.cg rfl (fun j hj => ?_)) F1
    try dsimp only
    by_cases w : j = n
    · rw [if_pos w, if_pos (by omega)]
    · rw [if_neg w, if_neg (by omega), if_pos (by omega)]
  have tB : f % 5 ≠ 4 → ¬ 5 ≤ f → AW M_X7_appendRoman 0 0 (QAr x (n + (rs f).toNat) (fun j => if j < n then g j else rsg f ((j : Int) - n) a b c) h t) 43 [some (vR x), some (vI f), some (vI a), some (vI b), some (vI c), some (vI 0)] [] t h 0 0 := fun y z => by
    refine t43 y h n (by omega) (hT.cg rfl (fun j hj => ?_)) (fun _ _ _ => rfl)
    try dsimp only
    rw [if_neg (by omega), if_pos hj]
  refine sem_intro (by decide) rfl (Nat.le_of_ble_eq_true rfl) rfl ?_
  refine aw_iload_n dX7_appendRoman_0 rfl ?_
  refine aw_iconst dX7_appendRoman_1 (by decide) (by decide) ?_
  refine aw_irem dX7_appendRoman_2 (by omega) (by omega) ?_
  refine aw_iconst dX7_appendRoman_3 (by decide) (by decide) ?_
  refine aw_icmp_ne 29 dX7_appendRoman_4 rfl (fun c4 => ?_) (fun c4 => ?_)
  · refine aw_iload_n dX7_appendRoman_29 rfl ?_
    refine aw_iconst dX7_appendRoman_30 (by decide) (by decide) ?_
    refine aw_icmp_lt 40 dX7_appendRoman_31 rfl (fun c31 => ?_) (fun c31 => ?_)
    · refine aw_iconst dX7_appendRoman_40 (by decide) (by decide) ?_
      refine aw_istore (ls' := [_, _, _, _, _, _]) dX7_appendRoman_41 (by decide) rfl ?_
      first | exact tA h1 (by omega) (by omega) g1 g2 | exact tB (by omega) (by omega)
    · refine aw_aload_n dX7_appendRoman_34 rfl ?_
      refine aw_iload_n dX7_appendRoman_35 rfl ?_
      refine aw_v1q dX7_appendRoman_36 vl_RX7_79 (by first | rfl | assumption) (Nat.le_of_ble_eq_true rfl) (Nat.le_of_ble_eq_true rfl) (Nat.le_of_ble_eq_true rfl) (Nat.le_refl _) (Nat.le_refl _) (c_J4_appendC hx hT (by omega) b0 b1) ?_
      intro v t' h1 hq
      obtain ⟨rfl, rfl, g1, g2⟩ := hq
      refine aw_pop dX7_appendRoman_39 rfl ?_
      refine aw_iconst dX7_appendRoman_40 (by decide) (by decide) ?_
      refine aw_istore (ls' := [_, _, _, _, _, _]) dX7_appendRoman_41 (by decide) rfl ?_
      first | exact tA h1 (by omega) (by omega) g1 g2 | exact tB (by omega) (by omega)
  · refine aw_aload_n dX7_appendRoman_7 rfl ?_
    refine aw_iload_n dX7_appendRoman_8 rfl ?_
    refine aw_v1q dX7_appendRoman_9 vl_RX7_79 (by first | rfl | assumption) (Nat.le_of_ble_eq_true rfl) (Nat.le_of_ble_eq_true rfl) (Nat.le_of_ble_eq_true rfl) (Nat.le_refl _) (Nat.le_refl _) (c_J4_appendC hx hT (by omega) a0 a1) ?_
    intro v t' h1 hq
    obtain ⟨rfl, rfl, g1, g2⟩ := hq
    refine aw_iload_n dX7_appendRoman_12 rfl ?_
    refine aw_bipush dX7_appendRoman_13 (by decide) (by decide) ?_
    refine aw_icmp_ne 23 dX7_appendRoman_15 rfl (fun c15 => ?_) (fun c15 => ?_)
    · refine aw_iload_n dX7_appendRoman_23 rfl ?_
      refine aw_v1q dX7_appendRoman_24 vl_RX7_79 (by first | rfl | assumption) (Nat.le_of_ble_eq_true rfl) (Nat.le_of_ble_eq_true rfl) (Nat.le_of_ble_eq_true rfl) (Nat.le_refl _) (Nat.le_refl _) (c_J4_appendC hx g1 (by omega) (by omega) (by omega)) ?_
      intro v t' h2 hq
      obtain ⟨rfl, rfl, g3, g4⟩ := hq
      refine aw_pop dX7_appendRoman_27 rfl ?_
      refine aw_return dX7_appendRoman_28 rfl (Nat.le_refl _) (Nat.le_refl _) ?_
      exact ⟨rfl, rfl, fin4 h2 _ (by omega) (by first | (rw [if_pos (by omega)]; done) | (rw [if_neg (by omega)]; done)) g3, fun c c1 c2 => by rw [g4 c c1 c2, g2 c c1 c2]⟩
    · refine aw_iload dX7_appendRoman_18 rfl ?_
      refine aw_goto 24 dX7_appendRoman_20 rfl ?_
      refine aw_v1q dX7_appendRoman_24 vl_RX7_79 (by first | rfl | assumption) (Nat.le_of_ble_eq_true rfl) (Nat.le_of_ble_eq_true rfl) (Nat.le_of_ble_eq_true rfl) (Nat.le_refl _) (Nat.le_refl _) (c_J4_appendC hx g1 (by omega) (by omega) (by omega)) ?_
      intro v t' h2 hq
      obtain ⟨rfl, rfl, g3, g4⟩ := hq
      refine aw_pop dX7_appendRoman_27 rfl ?_
      refine aw_return dX7_appendRoman_28 rfl (Nat.le_refl _) (Nat.le_refl _) ?_
      exact ⟨rfl, rfl, fin4 h2 _ (by omega) (by first | (rw [if_pos (by omega)]; done) | (rw [if_neg (by omega)]; done)) g3, fun c c1 c2 => by rw [g4 c c1 c2, g2 c c1 c2]⟩
end PR2
