/-! what the constructors make: the past, the whole -/
def shPa (o : Nat) : Nat × Nat := if o = 0 then (4, 3) else if o = 1 then (23, 24) else if (o - 2) % 5 = 0 then (8, 9) else (20, 12)
def rfPa (a i o : Nat) (k : Int) : Option Nat := if o = 0 then (if k = 0 then some (a + 1) else none) else if o = 1 then (if 0 ≤ k ∧ k < (i : Int) then some (a + 2 + 5 * k.toNat) else none) else if (o - 2) % 5 = 0 then rf_s (a + o) k else none
theorem bT_st {t : Tp} {i : Nat} : ((bT (bT t (2 + 5 * i) shPa (rfPa t.1 i)) 5 shS (rfS (t.1 + (2 + 5 * i)))).1, (bT (bT t (2 + 5 * i) shPa (rfPa t.1 i)) 5 shS (rfS (t.1 + (2 + 5 * i)))).2.1, am_upR (bT (bT t (2 + 5 * i) shPa (rfPa t.1 i)) 5 shS (rfS (t.1 + (2 + 5 * i)))).2.2 (t.1 + 1) (i : Int) (some (t.1 + (2 + 5 * i)))) = bT t (2 + 5 * (i + 1)) shPa (rfPa t.1 (i + 1)) := by
  refine Prod.ext ?_ (Prod.ext ?_ ?_)
  · show t.1 + (2 + 5 * i) + 5 = t.1 + (2 + 5 * (i + 1)); omega
  · funext b
    show (if t.1 + (2 + 5 * i) ≤ b ∧ b < t.1 + (2 + 5 * i) + 5 then shS (b - (t.1 + (2 + 5 * i))) else if t.1 ≤ b ∧ b < t.1 + (2 + 5 * i) then shPa (b - t.1) else t.2.1 b) = if t.1 ≤ b ∧ b < t.1 + (2 + 5 * (i + 1)) then shPa (b - t.1) else t.2.1 b
    by_cases y : t.1 + (2 + 5 * i) ≤ b ∧ b < t.1 + (2 + 5 * i) + 5
    · rw [if_pos y, if_pos (by omega)]
      unfold shS shPa
      by_cases z : b - (t.1 + (2 + 5 * i)) = 0
      · rw [if_pos z, if_neg (by omega), if_neg (by omega), if_pos (by omega)]
      · rw [if_neg z, if_neg (by omega), if_neg (by omega), if_neg (by omega)]
    · rw [if_neg y]
      by_cases z : t.1 ≤ b ∧ b < t.1 + (2 + 5 * i)
      · rw [if_pos z, if_pos (by omega)]
      · rw [if_neg z, if_neg (by omega)]
  · funext b k
    show (if b = t.1 + 1 ∧ k = (i : Int) then some (t.1 + (2 + 5 * i)) else if t.1 + (2 + 5 * i) ≤ b ∧ b < t.1 + (2 + 5 * i) + 5 then rfS (t.1 + (2 + 5 * i)) (b - (t.1 + (2 + 5 * i))) k else if t.1 ≤ b ∧ b < t.1 + (2 + 5 * i) then rfPa t.1 i (b - t.1) k else t.2.2 b k) = if t.1 ≤ b ∧ b < t.1 + (2 + 5 * (i + 1)) then rfPa t.1 (i + 1) (b - t.1) k else t.2.2 b k
    by_cases x : b = t.1 + 1 ∧ k = (i : Int)
    · rw [if_pos x, if_pos (by omega)]
      unfold rfPa
      rw [if_neg (by omega), if_pos (by omega), if_pos (by omega)]
      exact congrArg some (by omega)
    · rw [if_neg x]
      by_cases y : t.1 + (2 + 5 * i) ≤ b ∧ b < t.1 + (2 + 5 * i) + 5
      · rw [if_pos y, if_pos (by omega)]
        unfold rfS rfPa
        by_cases z : b - (t.1 + (2 + 5 * i)) = 0
        · rw [if_pos z, if_neg (by omega), if_neg (by omega), if_pos (by omega)]
          exact congrArg (fun w => rf_s w k) (by omega)
        · rw [if_neg z, if_neg (by omega), if_neg (by omega), if_neg (by omega)]
      · rw [if_neg y]
        by_cases z : t.1 ≤ b ∧ b < t.1 + (2 + 5 * i)
        · rw [if_pos z, if_pos (by omega)]
          unfold rfPa
          by_cases w0 : b - t.1 = 0
          · rw [if_pos w0, if_pos w0]
          · rw [if_neg w0, if_neg w0]
            by_cases w1 : b - t.1 = 1
            · rw [if_pos w1, if_pos w1]
              by_cases w2 : 0 ≤ k ∧ k < (i : Int)
              · rw [if_pos w2, if_pos (by omega)]
              · rw [if_neg w2, if_neg (by omega)]
            · rw [if_neg w1, if_neg w1]
        · rw [if_neg z, if_neg (by omega)]
theorem bH_st {t : Tp} {h : Mem} {i : Nat} : bH (bT t (2 + 5 * i) shPa (rfPa t.1 i)) 5 (bH t (2 + 5 * i) h) = bH t (2 + 5 * (i + 1)) h := by
  funext b
  show (if t.1 + (2 + 5 * i) ≤ b ∧ b < t.1 + (2 + 5 * i) + 5 then (fun _ => 0) else if t.1 ≤ b ∧ b < t.1 + (2 + 5 * i) then (fun _ => (0 : Int)) else h b) = if t.1 ≤ b ∧ b < t.1 + (2 + 5 * (i + 1)) then (fun _ => 0) else h b
  by_cases y : t.1 + (2 + 5 * i) ≤ b ∧ b < t.1 + (2 + 5 * i) + 5
  · rw [if_pos y, if_pos (by omega)]
  · rw [if_neg y]
    by_cases z : t.1 ≤ b ∧ b < t.1 + (2 + 5 * i)
    · rw [if_pos z, if_pos (by omega)]
    · rw [if_neg z, if_neg (by omega)]
section MA2
variable {t : Tp} {h : Mem}
theorem l_past (hl : t.1 + 122 ≤ 1000000) : ∀ (m i : Nat) (ck sk : Nat), i + m = 24 → ck = 1 + 5 * i → sk = 24 + 57 * i → AW M_X3_init 121 1392 (EQ none (bT t 122 shPa (rfPa t.1 24)) (bH t 122 h)) 15 [some (vR t.1), some (vI i)] [] (bT t (2 + 5 * i) shPa (rfPa t.1 i)) (bH t (2 + 5 * i) h) ck sk := by
  intro m
  induction m with
  | zero =>
    intro i ck sk hi hck hsk
    have ei : i = 24 := by omega
    subst ei
    refine aw_iload_n dX3_init_15 rfl ?_
    refine aw_bipush dX3_init_16 (by decide) (by decide) ?_
    refine aw_icmp_ge 40 dX3_init_18 rfl (fun c18 => ?_) (fun c18 => ?_)
    · refine aw_return dX3_init_40 rfl (by omega) (by omega) ?_
      exact ⟨rfl, rfl, rfl⟩
    · exfalso; omega
  | succ m ih =>
    intro i ck sk hi hck hsk
    have z := ih (i + 1) (ck + 1 + 4) (sk + 9 + 48) (by omega) (by omega) (by omega)
    rw [← bT_st, ← bH_st] at z
    have e1 : (bT t (2 + 5 * i) shPa (rfPa t.1 i)).2.1 t.1 = (4, 3) := by
      show (if t.1 ≤ t.1 ∧ t.1 < t.1 + (2 + 5 * i) then shPa (t.1 - t.1) else _) = _
      rw [if_pos (by omega), Nat.sub_self]; rfl
    have e2 : (bT t (2 + 5 * i) shPa (rfPa t.1 i)).2.2 t.1 0 = some (t.1 + 1) := by
      show (if t.1 ≤ t.1 ∧ t.1 < t.1 + (2 + 5 * i) then rfPa t.1 i (t.1 - t.1) 0 else _) = _
      rw [if_pos (by omega), Nat.sub_self]; rfl
    have e3 : (bT (bT t (2 + 5 * i) shPa (rfPa t.1 i)) 5 shS (rfS (t.1 + (2 + 5 * i)))).2.1 (t.1 + 1) = (23, 24) := by
      show (if t.1 + (2 + 5 * i) ≤ t.1 + 1 ∧ t.1 + 1 < t.1 + (2 + 5 * i) + 5 then _ else if t.1 ≤ t.1 + 1 ∧ t.1 + 1 < t.1 + (2 + 5 * i) then shPa (t.1 + 1 - t.1) else _) = _
      rw [if_neg (by omega), if_pos (by omega), Nat.add_sub_cancel_left]; rfl
    have e4 : (bT (bT t (2 + 5 * i) shPa (rfPa t.1 i)) 5 shS (rfS (t.1 + (2 + 5 * i)))).2.1 (t.1 + (2 + 5 * i)) = (8, 9) := by
      show (if t.1 + (2 + 5 * i) ≤ t.1 + (2 + 5 * i) ∧ t.1 + (2 + 5 * i) < t.1 + (2 + 5 * i) + 5 then shS (t.1 + (2 + 5 * i) - (t.1 + (2 + 5 * i))) else _) = _
      rw [if_pos (by omega), Nat.sub_self]; rfl
    refine aw_iload_n dX3_init_15 rfl ?_
    refine aw_bipush dX3_init_16 (by decide) (by decide) ?_
    refine aw_icmp_ge 40 dX3_init_18 rfl (fun c18 => ?_) (fun c18 => ?_)
    · exfalso; omega
    · refine aw_aload_n dX3_init_21 rfl ?_
      refine aw_getR1 (b := t.1 + 1) dX3_init_22 fx_RX3_11 e1 e2 ?_
      refine aw_iload_n dX3_init_25 rfl ?_
      refine aw_new dX3_init_26 nl_RX3_9 (show t.1 + (2 + 5 * i) < 1000000 by omega) (by omega) (by omega) ?_
      refine aw_dup dX3_init_29 rfl ?_
      refine aw_callIN dX3_init_30 ni_RX3_15 (c_X7_init (t := bT t (2 + 5 * i) shPa (rfPa t.1 i)) (h := bH t (2 + 5 * i) h) (by show t.1 + (2 + 5 * i) + 5 ≤ 1000000; omega)) rfl rfl (Nat.le_of_ble_eq_true rfl) (Nat.le_of_ble_eq_true rfl) (Nat.le_of_ble_eq_true rfl) (by omega) (by omega) ?_
      intro v_ t_ h_ hq_
      obtain ⟨rfl, rfl, rfl⟩ := hq_
      refine aw_aastore dX3_init_33 e3 e4 (by omega) (by omega) ?_
      refine aw_iinc (ls' := [_, _]) dX3_init_34 (by decide) rfl (by omega) (by omega) rfl ?_
      refine aw_goto 15 dX3_init_37 rfl ?_
      exact z
theorem c_X3_init (hl : t.1 + 122 ≤ 1000000) : Sem M_X3_init [vR t.1] (pT t 4 3) (pH t h) 121 1392 (EQ none (bT t 122 shPa (rfPa t.1 24)) (bH t 122 h)) := by
  have z := l_past (h := h) hl 24 0 1 24 (by omega) (by omega) (by omega)
  have et : bT t (2 + 5 * 0) shPa (rfPa t.1 0) = ((pT (pT t 4 3) 23 24).1, (pT (pT t 4 3) 23 24).2.1, am_upR (pT (pT t 4 3) 23 24).2.2 t.1 0 (some (t.1 + 1))) := by
    refine Prod.ext rfl (Prod.ext ?_ ?_)
    · funext b
      simp only [bT, pT, shPa]
      grind (splits := 40)
    · funext b k
      simp only [bT, pT, am_upR, rfPa]
      grind (splits := 40)
  have eh : bH t (2 + 5 * 0) h = pH (pT t 4 3) (pH t h) := by
    funext b
    simp only [bH, pH, pT]
    grind (splits := 40)
  rw [et, eh] at z
  refine sem_intro (by decide) rfl (Nat.le_of_ble_eq_true rfl) rfl ?_
  refine aw_aload_n dX3_init_0 rfl ?_
  refine aw_objInit dX3_init_1 oi_RX3_1 (Nat.le_of_ble_eq_true rfl) (Nat.le_of_ble_eq_true rfl) ?_
  refine aw_aload_n dX3_init_4 rfl ?_
  refine aw_bipush dX3_init_5 (by decide) (by decide) ?_
  refine aw_anew (N := 24) dX3_init_7 cl_RX3_9 rfl (by decide) (by simp only [pT]; omega) (by omega) (by omega) ?_
  refine aw_putR dX3_init_10 fp_RX3_11 (fun z => by first | rfl | cases z) (fun _ => ⟨rfl, rfl⟩) (by simp only [pT]; grind (splits := 40)) ?_
  refine aw_iconst dX3_init_13 (by decide) (by decide) ?_
  refine aw_istore_n (ls' := [_, _]) dX3_init_14 (by decide) rfl ?_
  exact z
end MA2
