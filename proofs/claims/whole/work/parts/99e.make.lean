/-! what the constructors make -/
def bT (t : Tp) (m : Nat) (S : Nat → Nat × Nat) (R : Nat → Int → Option Nat) : Tp := (t.1 + m, fun b => if t.1 ≤ b ∧ b < t.1 + m then S (b - t.1) else t.2.1 b, fun b j => if t.1 ≤ b ∧ b < t.1 + m then R (b - t.1) j else t.2.2 b j)
def bH (t : Tp) (m : Nat) (h : Mem) : Mem := fun b => if t.1 ≤ b ∧ b < t.1 + m then (fun _ => 0) else h b
def shS (o : Nat) : Nat × Nat := if o = 0 then (8, 9) else (20, 12)
def rfS (a o : Nat) (k : Int) : Option Nat := if o = 0 then rf_s a k else none
def shO (o : Nat) : Nat × Nat := if o = 0 then (3, 3) else (20, 12)
def rfO (a o : Nat) (k : Int) : Option Nat := if o = 0 then rf_3 a k else none
section MAK
variable {t : Tp} {h : Mem}
theorem c_X7_init (hl : t.1 + 5 ≤ 1000000) : Sem M_X7_init [vR t.1] (pT t 8 9) (pH t h) 4 48 (EQ none (bT t 5 shS (rfS t.1)) (bH t 5 h)) := by
  refine sem_intro (by decide) rfl (Nat.le_of_ble_eq_true rfl) rfl ?_
  refine aw_aload_n dX7_init_0 rfl ?_
  refine aw_objInit dX7_init_1 oi_RX7_3 (Nat.le_of_ble_eq_true rfl) (Nat.le_of_ble_eq_true rfl) ?_
  refine aw_aload_n dX7_init_4 rfl ?_
  refine aw_bipush dX7_init_5 (by decide) (by decide) ?_
  refine aw_newI (N := 12) dX7_init_7 rfl (by decide) (by simp only [pT]; omega) (by omega) (by omega) ?_
  refine aw_putR dX7_init_9 fp_RX7_9 (fun z => by first | rfl | cases z) (fun _ => ⟨rfl, rfl⟩) (by simp only [pT]; grind (splits := 40)) ?_
  refine aw_aload_n dX7_init_12 rfl ?_
  refine aw_bipush dX7_init_13 (by decide) (by decide) ?_
  refine aw_newI (N := 12) dX7_init_15 rfl (by decide) (by simp only [pT]; omega) (by omega) (by omega) ?_
  refine aw_putR dX7_init_17 fp_RX7_15 (fun z => by first | rfl | cases z) (fun _ => ⟨rfl, rfl⟩) (by simp only [pT]; grind (splits := 40)) ?_
  refine aw_aload_n dX7_init_20 rfl ?_
  refine aw_bipush dX7_init_21 (by decide) (by decide) ?_
  refine aw_newI (N := 12) dX7_init_23 rfl (by decide) (by simp only [pT]; omega) (by omega) (by omega) ?_
  refine aw_putR dX7_init_25 fp_RX7_18 (fun z => by first | rfl | cases z) (fun _ => ⟨rfl, rfl⟩) (by simp only [pT]; grind (splits := 40)) ?_
  refine aw_aload_n dX7_init_28 rfl ?_
  refine aw_bipush dX7_init_29 (by decide) (by decide) ?_
  refine aw_newI (N := 12) dX7_init_31 rfl (by decide) (by simp only [pT]; omega) (by omega) (by omega) ?_
  refine aw_putR dX7_init_33 fp_RX7_21 (fun z => by first | rfl | cases z) (fun _ => ⟨rfl, rfl⟩) (by simp only [pT]; grind (splits := 40)) ?_
  refine aw_return dX7_init_36 rfl (by omega) (by omega) ?_
  refine ⟨rfl, Prod.ext ?_ (Prod.ext ?_ ?_), ?_⟩
  · rfl
  · funext b; simp only [bT, pT, shS]; grind (splits := 40)
  · funext b k; simp only [bT, pT, am_upR, rfS, rf_s]; grind (splits := 40)
  · funext b; simp only [bH, pH, pT]; grind (splits := 40)
theorem c_X2_init (hl : t.1 + 4 ≤ 1000000) : Sem M_X2_init [vR t.1] (pT t 3 3) (pH t h) 3 36 (EQ none (bT t 4 shO (rfO t.1)) (bH t 4 h)) := by
  refine sem_intro (by decide) rfl (Nat.le_of_ble_eq_true rfl) rfl ?_
  refine aw_aload_n dX2_init_0 rfl ?_
  refine aw_objInit dX2_init_1 oi_RX2_3 (Nat.le_of_ble_eq_true rfl) (Nat.le_of_ble_eq_true rfl) ?_
  refine aw_aload_n dX2_init_4 rfl ?_
  refine aw_bipush dX2_init_5 (by decide) (by decide) ?_
  refine aw_newI (N := 12) dX2_init_7 rfl (by decide) (by simp only [pT]; omega) (by omega) (by omega) ?_
  refine aw_putR dX2_init_9 fp_RX2_9 (fun z => by first | rfl | cases z) (fun _ => ⟨rfl, rfl⟩) (by simp only [pT]; grind (splits := 40)) ?_
  refine aw_aload_n dX2_init_12 rfl ?_
  refine aw_bipush dX2_init_13 (by decide) (by decide) ?_
  refine aw_newI (N := 12) dX2_init_15 rfl (by decide) (by simp only [pT]; omega) (by omega) (by omega) ?_
  refine aw_putR dX2_init_17 fp_RX2_15 (fun z => by first | rfl | cases z) (fun _ => ⟨rfl, rfl⟩) (by simp only [pT]; grind (splits := 40)) ?_
  refine aw_aload_n dX2_init_20 rfl ?_
  refine aw_bipush dX2_init_21 (by decide) (by decide) ?_
  refine aw_newI (N := 12) dX2_init_23 rfl (by decide) (by simp only [pT]; omega) (by omega) (by omega) ?_
  refine aw_putR dX2_init_25 fp_RX2_18 (fun z => by first | rfl | cases z) (fun _ => ⟨rfl, rfl⟩) (by simp only [pT]; grind (splits := 40)) ?_
  refine aw_return dX2_init_28 rfl (by omega) (by omega) ?_
  refine ⟨rfl, Prod.ext ?_ (Prod.ext ?_ ?_), ?_⟩
  · rfl
  · funext b; simp only [bT, pT, shO]; grind (splits := 40)
  · funext b k; simp only [bT, pT, am_upR, rfO, rf_3]; grind (splits := 40)
  · funext b; simp only [bH, pH, pT]; grind (splits := 40)
def shRe (o : Nat) : Nat × Nat := if o = 0 then (5, 4) else (20, 0)
def rfRe (a o : Nat) (k : Int) : Option Nat := if o = 0 ∧ k = 0 then some (a + 1) else none
theorem c_X4_init (hl : t.1 + 2 ≤ 1000000) : Sem M_X4_init [vR t.1] (pT t 5 4) (pH t h) 1 0 (EQ none (bT t 2 shRe (rfRe t.1)) (bH t 2 h)) := by
  refine sem_intro (by decide) rfl (Nat.le_of_ble_eq_true rfl) rfl ?_
  refine aw_aload_n dX4_init_0 rfl ?_
  refine aw_objInit dX4_init_1 oi_RX4_3 (Nat.le_of_ble_eq_true rfl) (Nat.le_of_ble_eq_true rfl) ?_
  refine aw_aload_n dX4_init_4 rfl ?_
  refine aw_iconst dX4_init_5 (by decide) (by decide) ?_
  refine aw_newI (N := 0) dX4_init_6 rfl (by decide) (by simp only [pT]; omega) (by omega) (by omega) ?_
  refine aw_putR dX4_init_8 fp_RX4_9 (fun z => by first | rfl | cases z) (fun _ => ⟨rfl, rfl⟩) (by simp only [pT]; grind (splits := 40)) ?_
  refine aw_return dX4_init_11 rfl (by omega) (by omega) ?_
  refine ⟨rfl, Prod.ext ?_ (Prod.ext ?_ ?_), ?_⟩
  · rfl
  · funext b; simp only [bT, pT, shRe]; grind (splits := 40)
  · funext b k; simp only [bT, pT, am_upR, rfRe]; grind (splits := 40)
  · funext b; simp only [bH, pH, pT]; grind (splits := 40)
def shAs (o : Nat) : Nat × Nat := if o = 0 then (1, 3) else (20, 16)
def rfAs (a x o : Nat) (k : Int) : Option Nat := if o = 0 then (if k = 0 then some x else if k = 1 then some (a + 1) else none) else none
theorem c_X0_init {x : Nat} (hl : t.1 + 2 ≤ 1000000) : Sem M_X0_init [vR t.1, vR x] (pT t 1 3) (pH t h) 1 16 (EQ none (bT t 2 shAs (rfAs t.1 x)) (bH t 2 h)) := by
  refine sem_intro (by decide) rfl (Nat.le_of_ble_eq_true rfl) rfl ?_
  refine aw_aload_n dX0_init_0 rfl ?_
  refine aw_objInit dX0_init_1 oi_RX0_3 (Nat.le_of_ble_eq_true rfl) (Nat.le_of_ble_eq_true rfl) ?_
  refine aw_aload_n dX0_init_4 rfl ?_
  refine aw_bipush dX0_init_5 (by decide) (by decide) ?_
  refine aw_newI (N := 16) dX0_init_7 rfl (by decide) (by simp only [pT]; omega) (by omega) (by omega) ?_
  refine aw_putR dX0_init_9 fp_RX0_9 (fun z => by first | rfl | cases z) (fun _ => ⟨rfl, rfl⟩) (by simp only [pT]; grind (splits := 40)) ?_
  refine aw_aload_n dX0_init_12 rfl ?_
  refine aw_aload_n dX0_init_13 rfl ?_
  refine aw_putR dX0_init_14 fp_RX0_15 (fun z => by first | rfl | cases z) (fun _ => ⟨rfl, rfl⟩) (by simp only [pT]; grind (splits := 40)) ?_
  refine aw_return dX0_init_17 rfl (by omega) (by omega) ?_
  refine ⟨rfl, Prod.ext ?_ (Prod.ext ?_ ?_), ?_⟩
  · rfl
  · funext b; simp only [bT, pT, shAs]; grind (splits := 40)
  · funext b k; simp only [bT, pT, am_upR, rfAs]; grind (splits := 40)
  · funext b; simp only [bH, pH, pT]; grind (splits := 40)
def shRo (o : Nat) : Nat × Nat := if o = 0 then (6, 3) else if o < 3 then (20, 8) else if o = 3 then (24, 8) else (20, 40)
def rfRo (a o : Nat) (k : Int) : Option Nat := if o = 0 then (if k = 0 then some (a + 1) else if k = 1 then some (a + 2) else if k = 2 then some (a + 3) else none) else if o = 3 then (if 0 ≤ k ∧ k < 8 then some (a + 4 + k.toNat) else none) else none
theorem c_X5_init (hl : t.1 + 12 ≤ 1000000) : Sem M_X5_init [vR t.1] (pT t 6 3) (pH t h) 11 344 (EQ none (bT t 12 shRo (rfRo t.1)) (am_fill (bH t 12 h) (t.1 + 1) 8 (-1))) := by
  refine sem_intro (by decide) rfl (Nat.le_of_ble_eq_true rfl) rfl ?_
  refine aw_aload_n dX5_init_0 rfl ?_
  refine aw_objInit dX5_init_1 oi_RX5_1 (Nat.le_of_ble_eq_true rfl) (Nat.le_of_ble_eq_true rfl) ?_
  refine aw_aload_n dX5_init_4 rfl ?_
  refine aw_bipush dX5_init_5 (by decide) (by decide) ?_
  refine aw_newI (N := 8) dX5_init_7 rfl (by decide) (by simp only [pT, mT]; omega) (by omega) (by omega) ?_
  refine aw_putR dX5_init_9 fp_RX5_9 (fun z => by first | rfl | cases z) (fun _ => ⟨rfl, rfl⟩) (by simp only [pT, mT]; grind (splits := 40)) ?_
  refine aw_aload_n dX5_init_12 rfl ?_
  refine aw_bipush dX5_init_13 (by decide) (by decide) ?_
  refine aw_newI (N := 8) dX5_init_15 rfl (by decide) (by simp only [pT, mT]; omega) (by omega) (by omega) ?_
  refine aw_putR dX5_init_17 fp_RX5_13 (fun z => by first | rfl | cases z) (fun _ => ⟨rfl, rfl⟩) (by simp only [pT, mT]; grind (splits := 40)) ?_
  refine aw_aload_n dX5_init_20 rfl ?_
  refine aw_bipush dX5_init_21 (by decide) (by decide) ?_
  refine aw_bipush dX5_init_23 (by decide) (by decide) ?_
  refine aw_mna (N := 8) (K := 40) dX5_init_25 cl_RX5_16 ac_int rfl rfl (by decide) (by decide) (by simp only [pT, mT]; omega) (by omega) (by omega) ?_
  refine aw_putR dX5_init_29 fp_RX5_18 (fun z => by first | rfl | cases z) (fun _ => ⟨rfl, rfl⟩) (by simp only [pT, mT]; grind (splits := 40)) ?_
  refine aw_aload_n dX5_init_32 rfl ?_
  refine aw_getR1 (b := t.1 + 1) dX5_init_33 fx_RX5_9 (by simp only [pT, mT]; grind (splits := 40)) (by simp only [pT, mT, am_upR]; grind (splits := 40)) ?_
  refine aw_iconst dX5_init_36 (by decide) (by decide) ?_
  refine aw_s2v dX5_init_37 sl_RX5_21 (Nat.le_of_ble_eq_true rfl) (Nat.le_of_ble_eq_true rfl) (Nat.le_of_ble_eq_true rfl) (by omega) (by omega) (c_fill (a := t.1 + 1) (N := 8) (by simp only [pT, mT]; grind (splits := 40)) (by omega) (by decide)) ?_
  refine aw_return dX5_init_40 rfl (by omega) (by omega) ?_
  refine ⟨rfl, Prod.ext ?_ (Prod.ext ?_ ?_), ?_⟩
  · rfl
  · funext b; simp only [bT, pT, mT, shRo]; grind (splits := 40)
  · funext b k; simp only [bT, pT, mT, am_upR, rfRo]; grind (splits := 40)
  · congr 1; funext b; simp only [bH, pH, pT, mH]; grind (splits := 40)
def shSe (o : Nat) : Nat × Nat := if o = 0 then (7, 7) else if o = 1 then (3, 3) else if o = 5 then (24, 200) else (20, 12)
def rfSe (a o : Nat) (k : Int) : Option Nat := if o = 0 then (if k = 0 then some (a + 1) else if k = 1 then some (a + 5) else none) else if o = 1 then rf_3 (a + 1) k else if o = 5 then (if 0 ≤ k ∧ k < 200 then some (a + 6 + k.toNat) else none) else none
theorem c_X6_init (hl : t.1 + 206 ≤ 1000000) : Sem M_X6_init [vR t.1] (pT t 7 7) (pH t h) 205 2639 (EQ none (bT t 206 shSe (rfSe t.1)) (bH t 206 h)) := by
  refine sem_intro (by decide) rfl (Nat.le_of_ble_eq_true rfl) rfl ?_
  refine aw_aload_n dX6_init_0 rfl ?_
  refine aw_objInit dX6_init_1 oi_RX6_3 (Nat.le_of_ble_eq_true rfl) (Nat.le_of_ble_eq_true rfl) ?_
  refine aw_aload_n dX6_init_4 rfl ?_
  refine aw_new dX6_init_5 nl_RX6_9 (by simp only [pT, mT, bT]; omega) (by omega) (by omega) ?_
  refine aw_dup dX6_init_8 rfl ?_
  refine aw_callIN dX6_init_9 ni_RX6_11 (c_X2_init (t := pT t 7 7) (h := pH t h) (by simp only [pT]; omega)) rfl rfl (Nat.le_of_ble_eq_true rfl) (Nat.le_of_ble_eq_true rfl) (Nat.le_of_ble_eq_true rfl) (by omega) (by omega) ?_
  intro v_ t_ h_ hq_
  obtain ⟨rfl, rfl, rfl⟩ := hq_
  refine aw_putR dX6_init_12 fp_RX6_12 (fun z => by first | rfl | cases z) (fun _ => ⟨rfl, rfl⟩) (by simp only [pT, mT, bT]; grind (splits := 40)) ?_
  refine aw_aload_n dX6_init_15 rfl ?_
  refine aw_sipush dX6_init_16 (by decide) (by decide) ?_
  refine aw_bipush dX6_init_19 (by decide) (by decide) ?_
  refine aw_mna (N := 200) (K := 12) dX6_init_21 cl_RX6_18 ac_int rfl rfl (by decide) (by decide) (by simp only [pT, mT, bT]; omega) (by omega) (by omega) ?_
  refine aw_putR dX6_init_25 fp_RX6_20 (fun z => by first | rfl | cases z) (fun _ => ⟨rfl, rfl⟩) (by simp only [pT, mT, bT]; grind (splits := 40)) ?_
  refine aw_return dX6_init_28 rfl (by omega) (by omega) ?_
  refine ⟨rfl, Prod.ext ?_ (Prod.ext ?_ ?_), ?_⟩
  · rfl
  · funext b; simp only [bT, pT, mT, shSe, shO]; grind (splits := 40)
  · funext b k; simp only [bT, pT, mT, am_upR, rfSe, rfO]; grind (splits := 40)
  · funext b; simp only [bH, pH, pT, mH, bT]; grind (splits := 40)
def shFo (o : Nat) : Nat × Nat := if o = 0 then (2, 9) else if o = 1 then (3, 3) else (20, 12)
def rfFo (a x y z o : Nat) (k : Int) : Option Nat := if o = 0 then (if k = 0 then some x else if k = 1 then some y else if k = 2 then some z else if k = 3 then some (a + 1) else if k = 4 then some (a + 5) else if k = 6 then some (a + 5) else none) else if o = 1 then rf_3 (a + 1) k else none
theorem c_X1_init {x y z : Nat} (hl : t.1 + 6 ≤ 1000000) : Sem M_X1_init [vR t.1, vR x, vR y, vR z] (pT t 2 9) (pH t h) 5 51 (EQ none (bT t 6 shFo (rfFo t.1 x y z)) (bH t 6 h)) := by
  refine sem_intro (by decide) rfl (Nat.le_of_ble_eq_true rfl) rfl ?_
  refine aw_aload_n dX1_init_0 rfl ?_
  refine aw_objInit dX1_init_1 oi_RX1_3 (Nat.le_of_ble_eq_true rfl) (Nat.le_of_ble_eq_true rfl) ?_
  refine aw_aload_n dX1_init_4 rfl ?_
  refine aw_new dX1_init_5 nl_RX1_9 (by simp only [pT, mT, bT]; omega) (by omega) (by omega) ?_
  refine aw_dup dX1_init_8 rfl ?_
  refine aw_callIN dX1_init_9 ni_RX1_11 (c_X2_init (t := pT t 2 9) (h := pH t h) (by simp only [pT]; omega)) rfl rfl (Nat.le_of_ble_eq_true rfl) (Nat.le_of_ble_eq_true rfl) (Nat.le_of_ble_eq_true rfl) (by omega) (by omega) ?_
  intro v_ t_ h_ hq_
  obtain ⟨rfl, rfl, rfl⟩ := hq_
  refine aw_putR dX1_init_12 fp_RX1_12 (fun z => by first | rfl | cases z) (fun _ => ⟨rfl, rfl⟩) (by simp only [pT, mT, bT]; grind (splits := 40)) ?_
  refine aw_aload_n dX1_init_15 rfl ?_
  refine aw_bipush dX1_init_16 (by decide) (by decide) ?_
  refine aw_newI (N := 12) dX1_init_18 rfl (by decide) (by simp only [pT, mT, bT]; omega) (by omega) (by omega) ?_
  refine aw_putR dX1_init_20 fp_RX1_18 (fun z => by first | rfl | cases z) (fun _ => ⟨rfl, rfl⟩) (by simp only [pT, mT, bT]; grind (splits := 40)) ?_
  refine aw_aload_n dX1_init_23 rfl ?_
  refine aw_aload_n dX1_init_24 rfl ?_
  refine aw_putR dX1_init_25 fp_RX1_22 (fun z => by first | rfl | cases z) (fun _ => ⟨rfl, rfl⟩) (by simp only [pT, mT, bT]; grind (splits := 40)) ?_
  refine aw_aload_n dX1_init_28 rfl ?_
  refine aw_aload_n dX1_init_29 rfl ?_
  refine aw_putR dX1_init_30 fp_RX1_26 (fun z => by first | rfl | cases z) (fun _ => ⟨rfl, rfl⟩) (by simp only [pT, mT, bT]; grind (splits := 40)) ?_
  refine aw_aload_n dX1_init_33 rfl ?_
  refine aw_aload_n dX1_init_34 rfl ?_
  refine aw_putR dX1_init_35 fp_RX1_29 (fun z => by first | rfl | cases z) (fun _ => ⟨rfl, rfl⟩) (by simp only [pT, mT, bT]; grind (splits := 40)) ?_
  refine aw_aload_n dX1_init_38 rfl ?_
  refine aw_aload_n dX1_init_39 rfl ?_
  refine aw_getR1 (b := t.1 + 5) dX1_init_40 fx_RX1_18 (by simp only [pT, bT]; grind (splits := 40)) (by simp only [pT, bT, am_upR]; grind (splits := 40)) ?_
  refine aw_putR dX1_init_43 fp_RX1_33 (fun z => by first | rfl | cases z) (fun _ => ⟨rfl, rfl⟩) (by simp only [pT, mT, bT]; grind (splits := 40)) ?_
  refine aw_return dX1_init_46 rfl (by omega) (by omega) ?_
  refine ⟨rfl, Prod.ext ?_ (Prod.ext ?_ ?_), ?_⟩
  · rfl
  · funext b; simp only [bT, pT, shFo, shO]; grind (splits := 40)
  · funext b k; simp only [bT, pT, am_upR, rfFo, rfO]; grind (splits := 40)
  · funext b; simp only [bH, pH, pT, bT]; grind (splits := 40)
end MAK
