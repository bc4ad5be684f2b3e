/-! what the constructors make: the program, the reference -/
def stg (k s : Nat) (f g : Int → Option Nat) (L : Nat) : Tp := (k, fun b => if b < k ∨ 1000000 ≤ b then sh_a 389 L b else (99, 0), fun b j => if b = s then f j else if b = 360 then g j else rf_a 237 15 b j)
def zH (k : Nat) (h : Mem) : Mem := fun b => if b < k then (fun _ => 0) else h b
def zA (k : Nat) (h : Mem) : Mem := am_fill (zH k h) 2 8 (-1)
def g36 : Int → Option Nat := fun j => rf_a 237 15 360 j
theorem aw_to {M : MI} {mc ms : Nat} {Q : Option AV → Tp → Mem → Prop} {pc : Nat} {ls : List (Option AV)} {st : List AV} {t t' : Tp} {h h' : Mem} {ck sk : Nat} (e : t = t') (eh : h = h') (k : AW M mc ms Q pc ls st t' h' ck sk) : AW M mc ms Q pc ls st t h ck sk := by
  subst e; subst eh; exact k
section MA3
variable {k s m L : Nat} {f g : Int → Option Nat} {h : Mem}
theorem stg_sh {b : Nat} (hb : b < k) : (stg k s f g L).2.1 b = sh_a 389 L b := by
  show (if b < k ∨ 1000000 ≤ b then sh_a 389 L b else (99, 0)) = _
  rw [if_pos (Or.inl hb)]
theorem stg_bl {S : Nat → Nat × Nat} {R : Nat → Int → Option Nat} (hs : s < k) (hk : k + m ≤ 373) (h36 : g = g36 ∨ 360 < k) (hS : ∀ o, o < m → S o = sh_c (k + o)) (hR : ∀ o, o < m → ∀ j, R o j = rf_a 237 15 (k + o) j) : bT (stg k s f g L) m S R = stg (k + m) s f g L := by
  refine Prod.ext rfl (Prod.ext ?_ ?_)
  · funext b
    show (if k ≤ b ∧ b < k + m then S (b - k) else if b < k ∨ 1000000 ≤ b then sh_a 389 L b else (99, 0)) = if b < k + m ∨ 1000000 ≤ b then sh_a 389 L b else (99, 0)
    by_cases y : k ≤ b ∧ b < k + m
    · rw [if_pos y, if_pos (by omega), hS _ (by omega), show k + (b - k) = b by omega]
      unfold sh_a
      rw [if_pos (by omega)]
    · rw [if_neg y]
      by_cases z : b < k ∨ 1000000 ≤ b
      · rw [if_pos z, if_pos (by omega)]
      · rw [if_neg z, if_neg (by omega)]
  · funext b j
    show (if k ≤ b ∧ b < k + m then R (b - k) j else if b = s then f j else if b = 360 then g j else rf_a 237 15 b j) = if b = s then f j else if b = 360 then g j else rf_a 237 15 b j
    by_cases y : k ≤ b ∧ b < k + m
    · rw [if_pos y, if_neg (by omega), hR _ (by omega), show k + (b - k) = b by omega]
      by_cases z : b = 360
      · rw [if_pos z, z]
        rcases h36 with w | w
        · rw [w]; rfl
        · omega
      · rw [if_neg z]
    · rw [if_neg y]
theorem stg_ar {K N : Nat} (hs : s < k) (h36 : k ≠ 360) (hS : sh_a 389 L k = (K, N)) (hR : ∀ j, rf_a 237 15 k j = none) : pT (stg k s f g L) K N = stg (k + 1) s f g L := by
  refine Prod.ext rfl (Prod.ext ?_ ?_)
  · funext b
    show (if b = k then (K, N) else if b < k ∨ 1000000 ≤ b then sh_a 389 L b else (99, 0)) = if b < k + 1 ∨ 1000000 ≤ b then sh_a 389 L b else (99, 0)
    by_cases y : b = k
    · rw [if_pos y, if_pos (by omega), y, hS]
    · rw [if_neg y]
      by_cases z : b < k ∨ 1000000 ≤ b
      · rw [if_pos z, if_pos (by omega)]
      · rw [if_neg z, if_neg (by omega)]
  · funext b j
    show (if b = k then none else if b = s then f j else if b = 360 then g j else rf_a 237 15 b j) = if b = s then f j else if b = 360 then g j else rf_a 237 15 b j
    by_cases y : b = k
    · rw [if_pos y, if_neg (by omega), if_neg (by omega), y, hR]
    · rw [if_neg y]
theorem stg_36 (hs : s < 360) : pT (stg 360 s f g L) 23 2 = stg 361 s f (fun _ => none) L := by
  refine Prod.ext rfl (Prod.ext ?_ ?_)
  · funext b
    show (if b = 360 then (23, 2) else if b < 360 ∨ 1000000 ≤ b then sh_a 389 L b else (99, 0)) = if b < 361 ∨ 1000000 ≤ b then sh_a 389 L b else (99, 0)
    by_cases y : b = 360
    · rw [if_pos y, if_pos (by omega), y]; rfl
    · rw [if_neg y]
      by_cases z : b < 360 ∨ 1000000 ≤ b
      · rw [if_pos z, if_pos (by omega)]
      · rw [if_neg z, if_neg (by omega)]
  · funext b j
    show (if b = 360 then none else if b = s then f j else if b = 360 then g j else rf_a 237 15 b j) = if b = s then f j else if b = 360 then none else rf_a 237 15 b j
    by_cases y : b = 360
    · rw [if_pos y, if_neg (by omega), if_pos y]
    · rw [if_neg y, if_neg y, if_neg y]
theorem stg_pu {i : Int} {v : Option Nat} : ((stg k s f g L).1, (stg k s f g L).2.1, am_upR (stg k s f g L).2.2 s i v) = stg k s (fun j => if j = i then v else f j) g L := by
  refine Prod.ext rfl (Prod.ext rfl ?_)
  funext b j
  show (if b = s ∧ j = i then v else if b = s then f j else if b = 360 then g j else rf_a 237 15 b j) = if b = s then (if j = i then v else f j) else if b = 360 then g j else rf_a 237 15 b j
  by_cases y : b = s
  · rw [if_pos y, if_pos y]
    by_cases z : j = i
    · rw [if_pos ⟨y, z⟩, if_pos z]
    · rw [if_neg (fun w => z w.2), if_neg z]
  · rw [if_neg (fun w => y w.1), if_neg y, if_neg y]
theorem stg_pg {i : Int} {v : Option Nat} (hs : s ≠ 360) : ((stg k s f g L).1, (stg k s f g L).2.1, am_upR (stg k s f g L).2.2 360 i v) = stg k s f (fun j => if j = i then v else g j) L := by
  refine Prod.ext rfl (Prod.ext rfl ?_)
  funext b j
  show (if b = 360 ∧ j = i then v else if b = s then f j else if b = 360 then g j else rf_a 237 15 b j) = if b = s then f j else if b = 360 then (if j = i then v else g j) else rf_a 237 15 b j
  by_cases y : b = 360
  · have ns : ¬ b = s := by omega
    rw [if_neg ns, if_neg ns, if_pos y, if_pos y]
    by_cases z : j = i
    · rw [if_pos ⟨y, z⟩, if_pos z]
    · rw [if_neg (fun w => z w.2), if_neg z]
  · rw [if_neg (fun w => y w.1), if_neg y, if_neg y]
theorem zH_b : bH (stg k s f g L) m (zH k h) = zH (k + m) h := by
  funext b
  show (if k ≤ b ∧ b < k + m then (fun _ => 0) else if b < k then (fun _ => (0 : Int)) else h b) = if b < k + m then (fun _ => 0) else h b
  by_cases y : k ≤ b ∧ b < k + m
  · rw [if_pos y, if_pos (by omega)]
  · rw [if_neg y]
    by_cases z : b < k
    · rw [if_pos z, if_pos (by omega)]
    · rw [if_neg z, if_neg (by omega)]
theorem zA_b (hk : 2 < k) : bH (stg k s f g L) m (zA k h) = zA (k + m) h := by
  unfold zA
  rw [← zH_b (s := s) (f := f) (g := g) (L := L)]
  funext b j
  show (if k ≤ b ∧ b < k + m then (fun _ => 0) else fun j => am_fill (zH k h) 2 8 (-1) b j) j = if b = 2 ∧ 0 ≤ j ∧ j < 8 then -1 else (if k ≤ b ∧ b < k + m then (fun _ => 0) else zH k h b) j
  by_cases y : k ≤ b ∧ b < k + m
  · rw [if_pos y, if_neg (by omega), if_pos y]
  · rw [if_neg y, if_neg y]; rfl
theorem zA_p (hk : 2 < k) : pH (stg k s f g L) (zA k h) = zA (k + 1) h := by
  rw [← zA_b (s := s) (f := f) (g := g) (L := L) (m := 1) hk]
  funext b
  show (if b = k then (fun _ => (0 : Int)) else zA k h b) = if k ≤ b ∧ b < k + 1 then (fun _ => 0) else zA k h b
  by_cases y : b = k
  · rw [if_pos y, if_pos (by omega)]
  · rw [if_neg y, if_neg (by omega)]
theorem bl_S {a : Nat} (ha : sh_c a = (8, 9) ∧ sh_c (a + 1) = (20, 12) ∧ sh_c (a + 2) = (20, 12) ∧ sh_c (a + 3) = (20, 12) ∧ sh_c (a + 4) = (20, 12)) : ∀ o, o < 5 → shS o = sh_c (a + o) := by
  intro o ho
  obtain ⟨a0, a1, a2, a3, a4⟩ := ha
  rcases (show o = 0 ∨ o = 1 ∨ o = 2 ∨ o = 3 ∨ o = 4 by omega) with rfl | rfl | rfl | rfl | rfl
  · exact a0.symm
  · exact a1.symm
  · exact a2.symm
  · exact a3.symm
  · exact a4.symm
theorem br_S {a : Nat} (a0 : ∀ j, rf_a 237 15 a j = rf_s a j) (a1 : ∀ o j, 1 ≤ o → o < 5 → rf_a 237 15 (a + o) j = none) : ∀ o, o < 5 → ∀ j, rfS a o j = rf_a 237 15 (a + o) j := by
  intro o ho j
  unfold rfS
  by_cases z : o = 0
  · rw [if_pos z, z]; exact (a0 j).symm
  · rw [if_neg z]; exact (a1 o j (by omega) ho).symm
theorem br_Ro : ∀ o, o < 12 → ∀ j, rfRo 1 o j = rf_a 237 15 (1 + o) j := by
  intro o ho j
  rcases (show o = 0 ∨ o = 1 ∨ o = 2 ∨ o = 3 ∨ o = 4 ∨ o = 5 ∨ o = 6 ∨ o = 7 ∨ o = 8 ∨ o = 9 ∨ o = 10 ∨ o = 11 by omega) with rfl | rfl | rfl | rfl | rfl | rfl | rfl | rfl | rfl | rfl | rfl | rfl <;> rfl
theorem br_Re : ∀ o, o < 2 → ∀ j, rfRe 14 o j = rf_a 237 15 (14 + o) j := by
  intro o ho j
  rcases (show o = 0 ∨ o = 1 by omega) with rfl | rfl
  · show (if 0 = 0 ∧ j = 0 then some (14 + 1) else none) = if j = 0 then some 15 else none
    by_cases z : j = 0
    · rw [if_pos ⟨rfl, z⟩, if_pos z]
    · rw [if_neg (fun w => z w.2), if_neg z]
  · show (if 1 = 0 ∧ j = 0 then some (14 + 1) else none) = none
    rw [if_neg (fun w => nomatch w.1)]
theorem br_As : ∀ o, o < 2 → ∀ j, rfAs 371 16 o j = rf_a 237 15 (371 + o) j := by
  intro o ho j
  rcases (show o = 0 ∨ o = 1 by omega) with rfl | rfl <;> rfl
theorem br_Fo : ∀ o, o < 6 → ∀ j, rfFo 232 16 21 26 o j = rf_a 237 15 (232 + o) j := by
  intro o ho j
  rcases (show o = 0 ∨ o = 1 ∨ o = 2 ∨ o = 3 ∨ o = 4 ∨ o = 5 by omega) with rfl | rfl | rfl | rfl | rfl | rfl <;> rfl
theorem br_Se : ∀ o, o < 206 → ∀ j, rfSe 26 o j = rf_a 237 15 (26 + o) j := by
  intro o ho j
  by_cases z : o < 6
  · rcases (show o = 0 ∨ o = 1 ∨ o = 2 ∨ o = 3 ∨ o = 4 ∨ o = 5 by omega) with rfl | rfl | rfl | rfl | rfl | rfl <;> rfl
  · unfold rfSe rf_a
    rw [if_neg (by omega), if_neg (by omega), if_neg (by omega), if_neg (by omega), if_pos (by omega), if_neg (by omega), if_neg (by omega), if_neg (by omega), if_neg (by omega)]
theorem br_Pa : ∀ o, o < 122 → ∀ j, rfPa 238 24 o j = rf_a 237 15 (238 + o) j := by
  intro o ho j
  by_cases z : o < 2
  · rcases (show o = 0 ∨ o = 1 by omega) with rfl | rfl <;> rfl
  · have e2 : rf_a 237 15 (238 + o) j = if (o - 2) % 5 = 0 then rf_s (238 + o) j else none := by
      unfold rf_a
      rw [if_neg (by omega), if_neg (by omega), if_pos (by omega), show 238 + o - 240 = o - 2 by omega]
    rw [e2]
    unfold rfPa
    rw [if_neg (by omega), if_neg (by omega)]
theorem c_X8_init {hh : Mem} : Sem M_X8_init [vR 0] (stg 1 0 (fun _ => none) g36 L) (zH 1 hh) 372 4781 (EQ none (stg 373 0 rf_0 g36 L) (zA 373 hh)) := by
  have zz : am_fill (bH (stg 1 0 (fun _ => none) g36 L) 12 (zH 1 hh)) (1 + 1) 8 (-1) = zA 13 hh := by rw [zH_b]; rfl
  refine sem_intro (by decide) rfl (Nat.le_of_ble_eq_true rfl) rfl ?_
  refine aw_aload_n dX8_init_0 rfl ?_
  refine aw_objInit dX8_init_1 oi_RX8_1 (Nat.le_of_ble_eq_true rfl) (Nat.le_of_ble_eq_true rfl) ?_
  refine aw_aload_n dX8_init_4 rfl ?_
  refine aw_new dX8_init_5 nl_RX8_7 (Nat.le_of_ble_eq_true rfl) (by omega) (by omega) ?_
  refine aw_dup dX8_init_8 rfl ?_
  refine aw_callI dX8_init_9 il_RX8_9 (c_X5_init (t := stg 1 0 (fun _ => none) g36 L) (h := zH 1 hh) (Nat.le_of_ble_eq_true rfl)) rfl rfl (Nat.le_of_ble_eq_true rfl) (Nat.le_of_ble_eq_true rfl) (Nat.le_of_ble_eq_true rfl) (by omega) (by omega) ?_
  intro v_ t_ h_ hq_
  obtain ⟨rfl, rfl, rfl⟩ := hq_
  refine aw_to (stg_bl (by decide) (by decide) (Or.inl rfl) (by decide +kernel) br_Ro) zz ?_
  refine aw_putR dX8_init_12 fp_RX8_10 (fun z => by first | rfl | cases z) (fun _ => ⟨rfl, rfl⟩) rfl ?_
  refine aw_to stg_pu rfl ?_
  refine aw_aload_n dX8_init_15 rfl ?_
  refine aw_bipush dX8_init_16 (by decide) (by decide) ?_
  refine aw_newI (N := 80) dX8_init_18 rfl (by decide) (Nat.le_of_ble_eq_true rfl) (by omega) (by omega) ?_
  refine aw_to (stg_ar (by decide) (by decide) rfl (fun _ => rfl)) (zA_p (by decide)) ?_
  refine aw_putR dX8_init_20 fp_RX8_16 (fun z => by first | rfl | cases z) (fun _ => ⟨rfl, rfl⟩) rfl ?_
  refine aw_to stg_pu rfl ?_
  refine aw_aload_n dX8_init_23 rfl ?_
  refine aw_new dX8_init_24 nl_RX8_20 (Nat.le_of_ble_eq_true rfl) (by omega) (by omega) ?_
  refine aw_dup dX8_init_27 rfl ?_
  refine aw_callIN dX8_init_28 ni_RX8_22 (c_X4_init (t := stg 14 0 _ g36 L) (h := zA 14 hh) (Nat.le_of_ble_eq_true rfl)) rfl rfl (Nat.le_of_ble_eq_true rfl) (Nat.le_of_ble_eq_true rfl) (Nat.le_of_ble_eq_true rfl) (by omega) (by omega) ?_
  intro v_ t_ h_ hq_
  obtain ⟨rfl, rfl, rfl⟩ := hq_
  refine aw_to (stg_bl (by decide) (by decide) (Or.inl rfl) (by decide +kernel) br_Re) (zA_b (by decide)) ?_
  refine aw_putR dX8_init_31 fp_RX8_23 (fun z => by first | rfl | cases z) (fun _ => ⟨rfl, rfl⟩) rfl ?_
  refine aw_to stg_pu rfl ?_
  refine aw_aload_n dX8_init_34 rfl ?_
  refine aw_new dX8_init_35 nl_RX8_27 (Nat.le_of_ble_eq_true rfl) (by omega) (by omega) ?_
  refine aw_dup dX8_init_38 rfl ?_
  refine aw_callIN dX8_init_39 ni_RX8_29 (c_X7_init (t := stg 16 0 _ g36 L) (h := zA 16 hh) (Nat.le_of_ble_eq_true rfl)) rfl rfl (Nat.le_of_ble_eq_true rfl) (Nat.le_of_ble_eq_true rfl) (Nat.le_of_ble_eq_true rfl) (by omega) (by omega) ?_
  intro v_ t_ h_ hq_
  obtain ⟨rfl, rfl, rfl⟩ := hq_
  refine aw_to (stg_bl (by decide) (by decide) (Or.inl rfl) (by decide +kernel) (br_S (fun _ => rfl) (by intro o j h1 h2; rcases (show o = 1 ∨ o = 2 ∨ o = 3 ∨ o = 4 by omega) with rfl | rfl | rfl | rfl <;> rfl))) (zA_b (by decide)) ?_
  refine aw_putR dX8_init_42 fp_RX8_30 (fun z => by first | rfl | cases z) (fun _ => ⟨rfl, rfl⟩) rfl ?_
  refine aw_to stg_pu rfl ?_
  refine aw_aload_n dX8_init_45 rfl ?_
  refine aw_new dX8_init_46 nl_RX8_27 (Nat.le_of_ble_eq_true rfl) (by omega) (by omega) ?_
  refine aw_dup dX8_init_49 rfl ?_
  refine aw_callIN dX8_init_50 ni_RX8_29 (c_X7_init (t := stg 21 0 _ g36 L) (h := zA 21 hh) (Nat.le_of_ble_eq_true rfl)) rfl rfl (Nat.le_of_ble_eq_true rfl) (Nat.le_of_ble_eq_true rfl) (Nat.le_of_ble_eq_true rfl) (by omega) (by omega) ?_
  intro v_ t_ h_ hq_
  obtain ⟨rfl, rfl, rfl⟩ := hq_
  refine aw_to (stg_bl (by decide) (by decide) (Or.inl rfl) (by decide +kernel) (br_S (fun _ => rfl) (by intro o j h1 h2; rcases (show o = 1 ∨ o = 2 ∨ o = 3 ∨ o = 4 by omega) with rfl | rfl | rfl | rfl <;> rfl))) (zA_b (by decide)) ?_
  refine aw_putR dX8_init_53 fp_RX8_34 (fun z => by first | rfl | cases z) (fun _ => ⟨rfl, rfl⟩) rfl ?_
  refine aw_to stg_pu rfl ?_
  refine aw_aload_n dX8_init_56 rfl ?_
  refine aw_new dX8_init_57 nl_RX8_37 (Nat.le_of_ble_eq_true rfl) (by omega) (by omega) ?_
  refine aw_dup dX8_init_60 rfl ?_
  refine aw_callIN dX8_init_61 ni_RX8_39 (c_X6_init (t := stg 26 0 _ g36 L) (h := zA 26 hh) (Nat.le_of_ble_eq_true rfl)) rfl rfl (Nat.le_of_ble_eq_true rfl) (Nat.le_of_ble_eq_true rfl) (Nat.le_of_ble_eq_true rfl) (by omega) (by omega) ?_
  intro v_ t_ h_ hq_
  obtain ⟨rfl, rfl, rfl⟩ := hq_
  refine aw_to (stg_bl (by decide) (by decide) (Or.inl rfl) (by decide +kernel) br_Se) (zA_b (by decide)) ?_
  refine aw_putR dX8_init_64 fp_RX8_40 (fun z => by first | rfl | cases z) (fun _ => ⟨rfl, rfl⟩) rfl ?_
  refine aw_to stg_pu rfl ?_
  refine aw_aload_n dX8_init_67 rfl ?_
  refine aw_new dX8_init_68 nl_RX8_44 (Nat.le_of_ble_eq_true rfl) (by omega) (by omega) ?_
  refine aw_dup dX8_init_71 rfl ?_
  refine aw_aload_n dX8_init_72 rfl ?_
  refine aw_getR1 dX8_init_73 fx_RX8_30 rfl rfl ?_
  refine aw_aload_n dX8_init_76 rfl ?_
  refine aw_getR1 dX8_init_77 fx_RX8_34 rfl rfl ?_
  refine aw_aload_n dX8_init_80 rfl ?_
  refine aw_getR1 dX8_init_81 fx_RX8_40 rfl rfl ?_
  refine aw_callI dX8_init_84 il_RX8_46 (c_X1_init (t := stg 232 0 _ g36 L) (h := zA 232 hh) (Nat.le_of_ble_eq_true rfl)) rfl rfl (Nat.le_of_ble_eq_true rfl) (Nat.le_of_ble_eq_true rfl) (Nat.le_of_ble_eq_true rfl) (by omega) (by omega) ?_
  intro v_ t_ h_ hq_
  obtain ⟨rfl, rfl, rfl⟩ := hq_
  refine aw_to (stg_bl (by decide) (by decide) (Or.inl rfl) (by decide +kernel) br_Fo) (zA_b (by decide)) ?_
  refine aw_putR dX8_init_87 fp_RX8_49 (fun z => by first | rfl | cases z) (fun _ => ⟨rfl, rfl⟩) rfl ?_
  refine aw_to stg_pu rfl ?_
  refine aw_aload_n dX8_init_90 rfl ?_
  refine aw_new dX8_init_91 nl_RX8_53 (Nat.le_of_ble_eq_true rfl) (by omega) (by omega) ?_
  refine aw_dup dX8_init_94 rfl ?_
  refine aw_callI dX8_init_95 il_RX8_55 (c_X3_init (t := stg 238 0 _ g36 L) (h := zA 238 hh) (Nat.le_of_ble_eq_true rfl)) rfl rfl (Nat.le_of_ble_eq_true rfl) (Nat.le_of_ble_eq_true rfl) (Nat.le_of_ble_eq_true rfl) (by omega) (by omega) ?_
  intro v_ t_ h_ hq_
  obtain ⟨rfl, rfl, rfl⟩ := hq_
  refine aw_to (stg_bl (by decide) (by decide) (Or.inl rfl) (by decide +kernel) br_Pa) (zA_b (by decide)) ?_
  refine aw_putR dX8_init_98 fp_RX8_56 (fun z => by first | rfl | cases z) (fun _ => ⟨rfl, rfl⟩) rfl ?_
  refine aw_to stg_pu rfl ?_
  refine aw_aload_n dX8_init_101 rfl ?_
  refine aw_iconst dX8_init_102 (by decide) (by decide) ?_
  refine aw_anew (N := 2) dX8_init_103 cl_RX8_27 rfl (by decide) (Nat.le_of_ble_eq_true rfl) (by omega) (by omega) ?_
  refine aw_to (stg_36 (by decide)) (zA_p (by decide)) ?_
  refine aw_dup dX8_init_106 rfl ?_
  refine aw_iconst dX8_init_107 (by decide) (by decide) ?_
  refine aw_new dX8_init_108 nl_RX8_27 (Nat.le_of_ble_eq_true rfl) (by omega) (by omega) ?_
  refine aw_dup dX8_init_111 rfl ?_
  refine aw_callIN dX8_init_112 ni_RX8_29 (c_X7_init (t := stg 361 0 _ _ L) (h := zA 361 hh) (Nat.le_of_ble_eq_true rfl)) rfl rfl (Nat.le_of_ble_eq_true rfl) (Nat.le_of_ble_eq_true rfl) (Nat.le_of_ble_eq_true rfl) (by omega) (by omega) ?_
  intro v_ t_ h_ hq_
  obtain ⟨rfl, rfl, rfl⟩ := hq_
  refine aw_to (stg_bl (by decide) (by decide) (Or.inr (by decide)) (by decide +kernel) (br_S (fun _ => rfl) (by intro o j h1 h2; rcases (show o = 1 ∨ o = 2 ∨ o = 3 ∨ o = 4 by omega) with rfl | rfl | rfl | rfl <;> rfl))) (zA_b (by decide)) ?_
  refine aw_aastore dX8_init_115 rfl rfl (by omega) (by omega) ?_
  refine aw_to (stg_pg (by decide)) rfl ?_
  refine aw_dup dX8_init_116 rfl ?_
  refine aw_iconst dX8_init_117 (by decide) (by decide) ?_
  refine aw_new dX8_init_118 nl_RX8_27 (Nat.le_of_ble_eq_true rfl) (by omega) (by omega) ?_
  refine aw_dup dX8_init_121 rfl ?_
  refine aw_callIN dX8_init_122 ni_RX8_29 (c_X7_init (t := stg 366 0 _ _ L) (h := zA 366 hh) (Nat.le_of_ble_eq_true rfl)) rfl rfl (Nat.le_of_ble_eq_true rfl) (Nat.le_of_ble_eq_true rfl) (Nat.le_of_ble_eq_true rfl) (by omega) (by omega) ?_
  intro v_ t_ h_ hq_
  obtain ⟨rfl, rfl, rfl⟩ := hq_
  refine aw_to (stg_bl (by decide) (by decide) (Or.inr (by decide)) (by decide +kernel) (br_S (fun _ => rfl) (by intro o j h1 h2; rcases (show o = 1 ∨ o = 2 ∨ o = 3 ∨ o = 4 by omega) with rfl | rfl | rfl | rfl <;> rfl))) (zA_b (by decide)) ?_
  refine aw_aastore dX8_init_125 rfl rfl (by omega) (by omega) ?_
  refine aw_to (stg_pg (by decide)) rfl ?_
  refine aw_putR dX8_init_126 fp_RX8_60 (fun z => by first | rfl | cases z) (fun _ => ⟨rfl, rfl⟩) rfl ?_
  refine aw_to stg_pu rfl ?_
  refine aw_aload_n dX8_init_129 rfl ?_
  refine aw_new dX8_init_130 nl_RX8_64 (Nat.le_of_ble_eq_true rfl) (by omega) (by omega) ?_
  refine aw_dup dX8_init_133 rfl ?_
  refine aw_aload_n dX8_init_134 rfl ?_
  refine aw_getR1 dX8_init_135 fx_RX8_30 rfl rfl ?_
  refine aw_callI dX8_init_138 il_RX8_66 (c_X0_init (t := stg 371 0 _ _ L) (h := zA 371 hh) (Nat.le_of_ble_eq_true rfl)) rfl rfl (Nat.le_of_ble_eq_true rfl) (Nat.le_of_ble_eq_true rfl) (Nat.le_of_ble_eq_true rfl) (by omega) (by omega) ?_
  intro v_ t_ h_ hq_
  obtain ⟨rfl, rfl, rfl⟩ := hq_
  refine aw_to (stg_bl (by decide) (by decide) (Or.inr (by decide)) (by decide +kernel) br_As) (zA_b (by decide)) ?_
  refine aw_putR dX8_init_141 fp_RX8_69 (fun z => by first | rfl | cases z) (fun _ => ⟨rfl, rfl⟩) rfl ?_
  refine aw_to stg_pu rfl ?_
  refine aw_return dX8_init_144 rfl (Nat.le_refl _) (Nat.le_refl _) ?_
  refine ⟨rfl, ?_, rfl⟩
  have e1 : ∀ {a a' b b' : Int → Option Nat}, a = a' → b = b' → stg 373 0 a b L = stg 373 0 a' b' L := fun x y => by rw [x, y]
  refine e1 (funext fun j => ?_) (funext fun j => ?_)
  · by_cases z0 : j = 0
    · subst z0; rfl
    by_cases z1 : j = 1
    · subst z1; rfl
    by_cases z3 : j = 3
    · subst z3; rfl
    by_cases z4 : j = 4
    · subst z4; rfl
    by_cases z5 : j = 5
    · subst z5; rfl
    by_cases z6 : j = 6
    · subst z6; rfl
    by_cases z7 : j = 7
    · subst z7; rfl
    by_cases z8 : j = 8
    · subst z8; rfl
    by_cases z9 : j = 9
    · subst z9; rfl
    by_cases z10 : j = 10
    · subst z10; rfl
    simp only [rf_0, z0, z1, z3, z4, z5, z6, z7, z8, z9, z10, if_false]
  · show (if j = 1 then some 366 else if j = 0 then some 361 else none) = if 0 ≤ j ∧ j < 2 then some (361 + 5 * j.toNat) else none
    by_cases z : j = 1
    · subst z; rfl
    · rw [if_neg z]
      by_cases z2 : j = 0
      · subst z2; rfl
      · rw [if_neg z2, if_neg (by omega)]
def lA (i : Int) (hh : Mem) : Mem := am_fill (zA 389 hh) 374 i (-1000000)
theorem stg_m : pT (stg 373 0 rf_0 g36 L) 10 28 = stg 374 373 (fun _ => none) g36 L := by
  refine Prod.ext rfl (Prod.ext ?_ ?_)
  · funext b
    show (if b = 373 then (10, 28) else if b < 373 ∨ 1000000 ≤ b then sh_a 389 L b else (99, 0)) = if b < 374 ∨ 1000000 ≤ b then sh_a 389 L b else (99, 0)
    by_cases y : b = 373
    · rw [if_pos y, if_pos (by omega), y]; rfl
    · rw [if_neg y]
      by_cases z : b < 373 ∨ 1000000 ≤ b
      · rw [if_pos z, if_pos (by omega)]
      · rw [if_neg z, if_neg (by omega)]
  · funext b j
    show (if b = 373 then none else if b = 0 then rf_0 j else if b = 360 then g36 j else rf_a 237 15 b j) = if b = 373 then none else if b = 360 then g36 j else rf_a 237 15 b j
    by_cases y : b = 373
    · rw [if_pos y, if_pos y]
    · rw [if_neg y, if_neg y]
      by_cases z : b = 0
      · subst z; rfl
      · rw [if_neg z]
theorem stg_tt : stg 389 373 rf_m g36 L = TT 237 15 389 L := by
  refine Prod.ext rfl (Prod.ext ?_ ?_)
  · funext b
    show (if b < 389 ∨ 1000000 ≤ b then sh_a 389 L b else (99, 0)) = sh_a 389 L b
    by_cases y : b < 389 ∨ 1000000 ≤ b
    · rw [if_pos y]
    · rw [if_neg y]
      unfold sh_a
      rw [if_neg (by omega), if_neg (by omega), if_pos (by omega), if_neg (by omega)]
  · funext b j
    show (if b = 373 then rf_m j else if b = 360 then g36 j else rf_a 237 15 b j) = rf_a 237 15 b j
    by_cases y : b = 373
    · subst y; rfl
    · rw [if_neg y]
      by_cases z : b = 360
      · subst z; rfl
      · rw [if_neg z]
theorem l_lane {hh : Mem} : ∀ (m i : Nat) (ck sk : Nat), i + m = 8 → ck = 15 → sk = 4495 → AW M_X9_init 15 4495 (EQ none (TT 237 15 389 L) (lA 8 hh)) 128 [some (vR 373), some (vI i)] [] (TT 237 15 389 L) (lA i hh) ck sk := by
  intro m
  induction m with
  | zero =>
    intro i ck sk hi hck hsk
    have ei : i = 8 := by omega
    subst ei
    refine aw_iload_n dX9_init_128 rfl ?_
    refine aw_bipush dX9_init_129 (by decide) (by decide) ?_
    refine aw_icmp_ge 148 dX9_init_131 rfl (fun c131 => ?_) (fun c131 => ?_)
    · refine aw_return dX9_init_148 rfl (by omega) (by omega) ?_
      exact ⟨rfl, rfl, rfl⟩
    · exfalso; omega
  | succ m ih =>
    intro i ck sk hi hck hsk
    have z := ih (i + 1) ck sk (by omega) hck hsk
    have e : lA ((i + 1 : Nat) : Int) hh = am_up (lA i hh) 374 i (-1000000) := by
      unfold lA
      rw [am_fill_s (by omega)]; rfl
    rw [e] at z
    refine aw_iload_n dX9_init_128 rfl ?_
    refine aw_bipush dX9_init_129 (by decide) (by decide) ?_
    refine aw_icmp_ge 148 dX9_init_131 rfl (fun c131 => ?_) (fun c131 => ?_)
    · exfalso; omega
    · refine aw_aload_n dX9_init_134 rfl ?_
      refine aw_getR1 dX9_init_135 fx_RX9_7 (by first | rfl | assumption) (by first | rfl | assumption) ?_
      refine aw_iload_n dX9_init_138 rfl ?_
      refine aw_ldc (n := -1000000) dX9_init_139 kc_RX9_56 (by decide) ?_
      refine aw_iastore dX9_init_141 (by first | rfl | assumption) (by omega) (by omega) (by omega) ?_
      refine aw_iinc (ls' := [_, _]) dX9_init_142 (by decide) rfl (by omega) (by omega) rfl ?_
      refine aw_goto 128 dX9_init_145 rfl ?_
      exact z
theorem c_X9_init {hh : Mem} : Sem M_X9_init [vR 373] (stg 374 373 (fun _ => none) g36 L) (zA 374 hh) 15 4495 (EQ none (TT 237 15 389 L) (lA 8 hh)) := by
  refine sem_intro (by decide) rfl (Nat.le_of_ble_eq_true rfl) rfl ?_
  refine aw_aload_n dX9_init_0 rfl ?_
  refine aw_objInit dX9_init_1 oi_RX9_1 (Nat.le_of_ble_eq_true rfl) (Nat.le_of_ble_eq_true rfl) ?_
  refine aw_aload_n dX9_init_4 rfl ?_
  refine aw_bipush dX9_init_5 (by decide) (by decide) ?_
  refine aw_newI (N := 8) dX9_init_7 rfl (by decide) (Nat.le_of_ble_eq_true rfl) (by omega) (by omega) ?_
  refine aw_to (stg_ar (by decide) (by decide) rfl (fun _ => rfl)) (zA_p (by decide)) ?_
  refine aw_putR dX9_init_9 fp_RX9_7 (fun z => by first | rfl | cases z) (fun _ => ⟨rfl, rfl⟩) rfl ?_
  refine aw_to stg_pu rfl ?_
  refine aw_aload_n dX9_init_12 rfl ?_
  refine aw_bipush dX9_init_13 (by decide) (by decide) ?_
  refine aw_newI (N := 8) dX9_init_15 rfl (by decide) (Nat.le_of_ble_eq_true rfl) (by omega) (by omega) ?_
  refine aw_to (stg_ar (by decide) (by decide) rfl (fun _ => rfl)) (zA_p (by decide)) ?_
  refine aw_putR dX9_init_17 fp_RX9_13 (fun z => by first | rfl | cases z) (fun _ => ⟨rfl, rfl⟩) rfl ?_
  refine aw_to stg_pu rfl ?_
  refine aw_aload_n dX9_init_20 rfl ?_
  refine aw_sipush dX9_init_21 (by decide) (by decide) ?_
  refine aw_newI (N := 320) dX9_init_24 rfl (by decide) (Nat.le_of_ble_eq_true rfl) (by omega) (by omega) ?_
  refine aw_to (stg_ar (by decide) (by decide) rfl (fun _ => rfl)) (zA_p (by decide)) ?_
  refine aw_putR dX9_init_26 fp_RX9_16 (fun z => by first | rfl | cases z) (fun _ => ⟨rfl, rfl⟩) rfl ?_
  refine aw_to stg_pu rfl ?_
  refine aw_aload_n dX9_init_29 rfl ?_
  refine aw_bipush dX9_init_30 (by decide) (by decide) ?_
  refine aw_newI (N := 40) dX9_init_32 rfl (by decide) (Nat.le_of_ble_eq_true rfl) (by omega) (by omega) ?_
  refine aw_to (stg_ar (by decide) (by decide) rfl (fun _ => rfl)) (zA_p (by decide)) ?_
  refine aw_putR dX9_init_34 fp_RX9_19 (fun z => by first | rfl | cases z) (fun _ => ⟨rfl, rfl⟩) rfl ?_
  refine aw_to stg_pu rfl ?_
  refine aw_aload_n dX9_init_37 rfl ?_
  refine aw_bipush dX9_init_38 (by decide) (by decide) ?_
  refine aw_newI (N := 80) dX9_init_40 rfl (by decide) (Nat.le_of_ble_eq_true rfl) (by omega) (by omega) ?_
  refine aw_to (stg_ar (by decide) (by decide) rfl (fun _ => rfl)) (zA_p (by decide)) ?_
  refine aw_putR dX9_init_42 fp_RX9_22 (fun z => by first | rfl | cases z) (fun _ => ⟨rfl, rfl⟩) rfl ?_
  refine aw_to stg_pu rfl ?_
  refine aw_aload_n dX9_init_45 rfl ?_
  refine aw_bipush dX9_init_46 (by decide) (by decide) ?_
  refine aw_newI (N := 53) dX9_init_48 rfl (by decide) (Nat.le_of_ble_eq_true rfl) (by omega) (by omega) ?_
  refine aw_to (stg_ar (by decide) (by decide) rfl (fun _ => rfl)) (zA_p (by decide)) ?_
  refine aw_putR dX9_init_50 fp_RX9_25 (fun z => by first | rfl | cases z) (fun _ => ⟨rfl, rfl⟩) rfl ?_
  refine aw_to stg_pu rfl ?_
  refine aw_aload_n dX9_init_53 rfl ?_
  refine aw_bipush dX9_init_54 (by decide) (by decide) ?_
  refine aw_newI (N := 53) dX9_init_56 rfl (by decide) (Nat.le_of_ble_eq_true rfl) (by omega) (by omega) ?_
  refine aw_to (stg_ar (by decide) (by decide) rfl (fun _ => rfl)) (zA_p (by decide)) ?_
  refine aw_putR dX9_init_58 fp_RX9_28 (fun z => by first | rfl | cases z) (fun _ => ⟨rfl, rfl⟩) rfl ?_
  refine aw_to stg_pu rfl ?_
  refine aw_aload_n dX9_init_61 rfl ?_
  refine aw_bipush dX9_init_62 (by decide) (by decide) ?_
  refine aw_newI (N := 53) dX9_init_64 rfl (by decide) (Nat.le_of_ble_eq_true rfl) (by omega) (by omega) ?_
  refine aw_to (stg_ar (by decide) (by decide) rfl (fun _ => rfl)) (zA_p (by decide)) ?_
  refine aw_putR dX9_init_66 fp_RX9_31 (fun z => by first | rfl | cases z) (fun _ => ⟨rfl, rfl⟩) rfl ?_
  refine aw_to stg_pu rfl ?_
  refine aw_aload_n dX9_init_69 rfl ?_
  refine aw_sipush dX9_init_70 (by decide) (by decide) ?_
  refine aw_newI (N := 1272) dX9_init_73 rfl (by decide) (Nat.le_of_ble_eq_true rfl) (by omega) (by omega) ?_
  refine aw_to (stg_ar (by decide) (by decide) rfl (fun _ => rfl)) (zA_p (by decide)) ?_
  refine aw_putR dX9_init_75 fp_RX9_34 (fun z => by first | rfl | cases z) (fun _ => ⟨rfl, rfl⟩) rfl ?_
  refine aw_to stg_pu rfl ?_
  refine aw_aload_n dX9_init_78 rfl ?_
  refine aw_bipush dX9_init_79 (by decide) (by decide) ?_
  refine aw_newI (N := 106) dX9_init_81 rfl (by decide) (Nat.le_of_ble_eq_true rfl) (by omega) (by omega) ?_
  refine aw_to (stg_ar (by decide) (by decide) rfl (fun _ => rfl)) (zA_p (by decide)) ?_
  refine aw_putR dX9_init_83 fp_RX9_37 (fun z => by first | rfl | cases z) (fun _ => ⟨rfl, rfl⟩) rfl ?_
  refine aw_to stg_pu rfl ?_
  refine aw_aload_n dX9_init_86 rfl ?_
  refine aw_iconst dX9_init_87 (by decide) (by decide) ?_
  refine aw_newZ (N := 2) dX9_init_88 rfl (by decide) (Nat.le_of_ble_eq_true rfl) (by omega) (by omega) ?_
  refine aw_to (stg_ar (by decide) (by decide) rfl (fun _ => rfl)) (zA_p (by decide)) ?_
  refine aw_putR dX9_init_90 fp_RX9_40 (fun z => by first | rfl | cases z) (fun _ => ⟨rfl, rfl⟩) rfl ?_
  refine aw_to stg_pu rfl ?_
  refine aw_aload_n dX9_init_93 rfl ?_
  refine aw_bipush dX9_init_94 (by decide) (by decide) ?_
  refine aw_newI (N := 36) dX9_init_96 rfl (by decide) (Nat.le_of_ble_eq_true rfl) (by omega) (by omega) ?_
  refine aw_to (stg_ar (by decide) (by decide) rfl (fun _ => rfl)) (zA_p (by decide)) ?_
  refine aw_putR dX9_init_98 fp_RX9_44 (fun z => by first | rfl | cases z) (fun _ => ⟨rfl, rfl⟩) rfl ?_
  refine aw_to stg_pu rfl ?_
  refine aw_aload_n dX9_init_101 rfl ?_
  refine aw_bipush dX9_init_102 (by decide) (by decide) ?_
  refine aw_newI (N := 36) dX9_init_104 rfl (by decide) (Nat.le_of_ble_eq_true rfl) (by omega) (by omega) ?_
  refine aw_to (stg_ar (by decide) (by decide) rfl (fun _ => rfl)) (zA_p (by decide)) ?_
  refine aw_putR dX9_init_106 fp_RX9_47 (fun z => by first | rfl | cases z) (fun _ => ⟨rfl, rfl⟩) rfl ?_
  refine aw_to stg_pu rfl ?_
  refine aw_aload_n dX9_init_109 rfl ?_
  refine aw_sipush dX9_init_110 (by decide) (by decide) ?_
  refine aw_newI (N := 2412) dX9_init_113 rfl (by decide) (Nat.le_of_ble_eq_true rfl) (by omega) (by omega) ?_
  refine aw_to (stg_ar (by decide) (by decide) rfl (fun _ => rfl)) (zA_p (by decide)) ?_
  refine aw_putR dX9_init_115 fp_RX9_50 (fun z => by first | rfl | cases z) (fun _ => ⟨rfl, rfl⟩) rfl ?_
  refine aw_to stg_pu rfl ?_
  refine aw_aload_n dX9_init_118 rfl ?_
  refine aw_bipush dX9_init_119 (by decide) (by decide) ?_
  refine aw_newI (N := 16) dX9_init_121 rfl (by decide) (Nat.le_of_ble_eq_true rfl) (by omega) (by omega) ?_
  refine aw_to (stg_ar (by decide) (by decide) rfl (fun _ => rfl)) (zA_p (by decide)) ?_
  refine aw_putR dX9_init_123 fp_RX9_53 (fun z => by first | rfl | cases z) (fun _ => ⟨rfl, rfl⟩) rfl ?_
  refine aw_to stg_pu rfl ?_
  refine aw_iconst dX9_init_126 (by decide) (by decide) ?_
  refine aw_istore_n (ls' := [_, _]) dX9_init_127 (by decide) rfl ?_
  have e0 : lA ((0 : Nat) : Int) hh = zA 389 hh := am_fill_0
  have z := l_lane (L := L) (hh := hh) 8 0 15 4495 rfl rfl rfl
  rw [e0] at z
  refine aw_to (Eq.trans ?_ stg_tt) rfl z
  have e1 : ∀ {a a' : Int → Option Nat}, a = a' → stg 389 373 a g36 L = stg 389 373 a' g36 L := fun x => by rw [x]
  refine e1 (funext fun j => ?_)
  by_cases z0 : j = 0
  · subst z0; rfl
  by_cases z1 : j = 1
  · subst z1; rfl
  by_cases z2 : j = 2
  · subst z2; rfl
  by_cases z3 : j = 3
  · subst z3; rfl
  by_cases z5 : j = 5
  · subst z5; rfl
  by_cases z13 : j = 13
  · subst z13; rfl
  by_cases z14 : j = 14
  · subst z14; rfl
  by_cases z15 : j = 15
  · subst z15; rfl
  by_cases z16 : j = 16
  · subst z16; rfl
  by_cases z18 : j = 18
  · subst z18; rfl
  by_cases z19 : j = 19
  · subst z19; rfl
  by_cases z20 : j = 20
  · subst z20; rfl
  by_cases z21 : j = 21
  · subst z21; rfl
  by_cases z22 : j = 22
  · subst z22; rfl
  by_cases z26 : j = 26
  · subst z26; rfl
  simp only [rf_m, z0, z1, z2, z3, z5, z13, z14, z15, z16, z18, z19, z20, z21, z22, z26, if_false]
end MA3
