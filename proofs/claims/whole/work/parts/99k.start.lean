/-! what holds at the law's start -/
theorem tb_of {w : Cond} (i : Nat) (h : tables_1[i]? = some w) : w ∈ lw_tbl := by unfold lw_tbl; exact List.mem_append_right _ (List.mem_of_getElem? h)
theorem eq_i {args : Array Value} {s : State} {T : Term} {z : Int32} (h : (Cond.eq T (.int z)).before args s = true) : T.eval args s none [] s = some (.int z) := by
  cases hv : T.eval args s none [] s with
  | none => simp [Cond.before, Cond.holds, Cond.value, hv] at h
  | some w =>
    have hz : (Term.int z).eval args s none [] s = some (.int z) := rfl
    simp only [Cond.before, Cond.holds, Cond.value, hv, hz] at h
    cases w <;> simp_all
/-- a static field that holds an array of known numbers -/
theorem st_arr {args : Array Value} {s : State} {C n d : String} {ty : FieldType} {N : Nat} {z : Nat → Int32} (hN : N < 2147483648) (h1 : (Cond.arrayOf (.static C n d) ty).before args s = true) (h2 : (Cond.eq (.length (.static C n d)) (.int (Int32.ofNat N))).before args s = true)
    (h3 : ∀ j, j < N → (Cond.eq (.elem (.static C n d) (.int (Int32.ofNat j))) (.int (z j))).before args s = true) :
    ∃ (t : Nat) (cell : Cell), (Term.static C n d).eval args s none [] s = some (.ref t) ∧ s.heap[t]? = some cell ∧ s.isArrayOf cell ty ∧ cell.vm ≠ .unknown ∧ cell.slots.size = N ∧ ∀ j, j < N → cell.slots[j]? = some (.int (z j)) := by
  have hv := eq_i h2
  obtain ⟨b, cell, ht, harr, -⟩ := Term.length_spec hv
  obtain ⟨hcell, -, -, -⟩ := State.arrayAt?_spec harr
  obtain ⟨hof, hun⟩ := Cond.arrayOf_spec h1 ht hcell
  have hsz : cell.slots.size = N := by
    simp only [Term.eval, Option.bind_eq_bind] at hv ht
    simp only [ht, harr, Option.bind_some] at hv
    by_cases hlt : cell.slots.size < 2147483648
    · simp [hlt] at hv
      have e := congrArg Int32.toInt hv
      rw [Int32.toInt_ofNat_small (show N < 2 ^ 31 by omega)] at e
      rw [show cell.slots.size.toInt32 = Int32.ofNat cell.slots.size from rfl, Int32.toInt_ofNat_small (show cell.slots.size < 2 ^ 31 by omega)] at e
      omega
    · simp [hlt] at hv
  refine ⟨b, cell, ht, hcell, hof, hun, hsz, fun j hj => ?_⟩
  have he := eq_i (h3 j hj)
  have hj31 : j < 2 ^ 31 := by omega
  have hneg : ¬ Int32.ofNat j < 0 := Int32.ofNat_not_neg hj31
  have hnat : (Int32.ofNat j).toNatClampNeg = j := by
    show (Int32.ofNat j).toInt.toNat = j
    rw [Int32.toInt_ofNat_small hj31]; rfl
  have hi : (Term.int (Int32.ofNat j)).eval args s none [] s = some (.int (Int32.ofNat j)) := rfl
  simp only [Term.eval, Option.bind_eq_bind] at he ht
  simp only [ht, harr, Option.bind_some, hneg, hnat, if_false] at he
  exact he
def dR (j : Nat) : Int32 := ([0, 1, 2, 3, 2, 1, 2, 3, 4, 2] : List Int32).getD j 0
def dO (j : Nat) : Int32 := Int32.ofNat (48 + j % 10)
def dT (j : Nat) : Int32 := Int32.ofNat (48 + j / 10)
abbrev flt : List Cond := flatC (Cond.and given_1 narrow_1)
theorem fl_of {w : Cond} (i : Nat) (h : flt[i]? = some w) : w ∈ flt := List.mem_of_getElem? h
theorem fl_R : ∀ j, j < 10 → flt[7 + j]? = some (.eq (.elem (.static "RefsSettle$Sheet" "ROMAN_SIGNS" "[I") (.int (Int32.ofNat j))) (.int (dR j))) := by decide +kernel
theorem fl_O : ∀ j, j < 100 → flt[25 + j]? = some (.eq (.elem (.static "java/lang/Integer" "DigitOnes" "[B") (.int (Int32.ofNat j))) (.int (dO j))) := by decide +kernel
theorem fl_T : ∀ j, j < 100 → flt[128 + j]? = some (.eq (.elem (.static "java/lang/Integer" "DigitTens" "[B") (.int (Int32.ofNat j))) (.int (dT j))) := by decide +kernel
theorem dR_v : ∀ j, j < 10 → (dR j).toInt = rs (j : Int) := by decide
theorem dO_v {j : Nat} : (dO j).toInt = 48 + (j : Int) % 10 := by
  unfold dO
  rw [Int32.toInt_ofNat_small (show 48 + j % 10 < 2 ^ 31 by omega)]
  omega
theorem dT_v {j : Nat} (hj : j < 100) : (dT j).toInt = 48 + (j : Int) / 10 := by
  unfold dT
  rw [Int32.toInt_ofNat_small (show 48 + j / 10 < 2 ^ 31 by omega)]
  omega
theorem kn_all {args : Array Value} {s : State} (hW : ∀ w ∈ WS, w.before args s = true) : ∃ (dC : Nat → ClassId) (dI : Nat → Nat → Nat), ∀ (k : Nat) (q : vw_C), vwCl[k]? = some q → u_Kn s q.1 q.2.1 q.2.2 (dC k) (dI k) := by
  obtain ⟨c0, i0, h0⟩ := u_known (C := RJ4) (T := TJ4) (N := 4) (n := 4) hW kf_0.1 (hW _ (ws_of (w := .instantiable RJ4 4) 581 (by decide +kernel) rfl))
  obtain ⟨c1, i1, h1⟩ := u_known (C := RX0) (T := TX0) (N := 3) (n := 3) hW kf_1.1 (hW _ (ws_of (w := .instantiable RX0 3) 254 (by decide +kernel) rfl))
  obtain ⟨c2, i2, h2⟩ := u_known (C := RX1) (T := TX1) (N := 9) (n := 9) hW kf_2.1 (hW _ (ws_of (w := .instantiable RX1 9) 198 (by decide +kernel) rfl))
  obtain ⟨c3, i3, h3⟩ := u_known (C := RX2) (T := TX2) (N := 3) (n := 3) hW kf_3.1 (hW _ (ws_of (w := .instantiable RX2 3) 148 (by decide +kernel) rfl))
  obtain ⟨c4, i4, h4⟩ := u_known (C := RX3) (T := TX3) (N := 3) (n := 3) hW kf_4.1 (hW _ (ws_of (w := .instantiable RX3 3) 234 (by decide +kernel) rfl))
  obtain ⟨c5, i5, h5⟩ := u_known (C := RX4) (T := TX4) (N := 4) (n := 4) hW kf_5.1 (hW _ (ws_of (w := .instantiable RX4 4) 55 (by decide +kernel) rfl))
  obtain ⟨c6, i6, h6⟩ := u_known (C := RX5) (T := TX5) (N := 3) (n := 3) hW kf_6.1 (hW _ (ws_of (w := .instantiable RX5 3) 32 (by decide +kernel) rfl))
  obtain ⟨c7, i7, h7⟩ := u_known (C := RX6) (T := TX6) (N := 7) (n := 7) hW kf_7.1 (hW _ (ws_of (w := .instantiable RX6 7) 142 (by decide +kernel) rfl))
  obtain ⟨c8, i8, h8⟩ := u_known (C := RX7) (T := TX7) (N := 9) (n := 9) hW kf_8.1 (hW _ (ws_of (w := .instantiable RX7 9) 76 (by decide +kernel) rfl))
  obtain ⟨c9, i9, h9⟩ := u_known (C := RX8) (T := TX8) (N := 13) (n := 13) hW kf_9.1 (hW _ (ws_of (w := .instantiable RX8 13) 24 (by decide +kernel) rfl))
  obtain ⟨c10, i10, h10⟩ := u_known (C := RX9) (T := TX9) (N := 28) (n := 28) hW kf_10.1 (hW _ (ws_of (w := .instantiable RX9 28) 972 (by decide +kernel) rfl))
  refine ⟨fun k => match k with | 0 => c0 | 1 => c1 | 2 => c2 | 3 => c3 | 4 => c4 | 5 => c5 | 6 => c6 | 7 => c7 | 8 => c8 | 9 => c9 | _ => c10, fun k => match k with | 0 => i0 | 1 => i1 | 2 => i2 | 3 => i3 | 4 => i4 | 5 => i5 | 6 => i6 | 7 => i7 | 8 => i8 | 9 => i9 | _ => i10, ?_⟩
  intro k q hq
  match k, hq with
  | 0, hq => cases hq; exact h0
  | 1, hq => cases hq; exact h1
  | 2, hq => cases hq; exact h2
  | 3, hq => cases hq; exact h3
  | 4, hq => cases hq; exact h4
  | 5, hq => cases hq; exact h5
  | 6, hq => cases hq; exact h6
  | 7, hq => cases hq; exact h7
  | 8, hq => cases hq; exact h8
  | 9, hq => cases hq; exact h9
  | 10, hq => cases hq; exact h10
  | k + 11, hq => simp [vwCl] at hq
theorem ty_all {args : Array Value} {s : State} (hts : ∀ w ∈ lw_tbl, w.before args s = true) : ∃ kd : Nat → ClassId, ∀ (k : Nat) (q : ClassId × FieldType), ([(kd 20, .int), (kd 21, .byte), (kd 22, .boolean), (kd 23, .object "RefsSettle$Sheet"), (kd 24, .array .int)] : List (ClassId × FieldType))[k]? = some q → ArrOfT s q.1 q.2 ∧ va_RA s q.1 q.2 := by
  obtain ⟨cI, kI, pI, a1, a2, a3⟩ := Cond.arrayClass_spec (hts (.arrayClass .int) (tb_of 53 (by decide +kernel)))
  obtain ⟨cB, kB, pB, b1, b2, b3⟩ := Cond.arrayClass_spec (hts (.arrayClass .byte) (tb_of 610 (by decide +kernel)))
  obtain ⟨cZ, kZ, pZ, z1, z2, z3⟩ := Cond.arrayClass_spec (hts (.arrayClass .boolean) (tb_of 1063 (by decide +kernel)))
  obtain ⟨pS, cS, kS, s1, -, s2, s3, s4⟩ := Cond.arrayOver_spec (hts (.arrayOver (.object "RefsSettle$Sheet")) (tb_of 240 (by decide +kernel)))
  obtain ⟨pA, cA, kA, t1, -, t2, t3, t4⟩ := arrayOverA_spec (hts (.arrayOver (.array .int)) (tb_of 38 (by decide +kernel)))
  refine ⟨fun k => match k with | 20 => cI | 21 => cB | 22 => cZ | 23 => cS | _ => cA, ?_⟩
  intro k q hq
  match k, hq with
  | 0, hq => cases hq; exact ⟨fun n z => ⟨fun k h => (by cases h), kI, a2, pI, a3⟩, a1⟩
  | 1, hq => cases hq; exact ⟨fun n z => ⟨fun k h => (by cases h), kB, b2, pB, b3⟩, b1⟩
  | 2, hq => cases hq; exact ⟨fun n z => ⟨fun k h => (by cases h), kZ, z2, pZ, z3⟩, z1⟩
  | 3, hq => cases hq; exact ⟨fun n z => ⟨fun k h => (by cases h), kS, s2, pS, s3⟩, kS, pS, s2, s3, s1, s4⟩
  | 4, hq => cases hq; exact ⟨fun n z => ⟨fun k h => (by cases h), kA, t2, pA, t3⟩, t4⟩
  | k + 5, hq => simp at hq
def gM (xs : Nat → Int32) : Mem := fun a j => if a = 1000000 then (xs j.toNat).toInt else if a = 1000001 then rs j else if a = 1000002 then 48 + j % 10 else 48 + j / 10
def GG (s : State) (D : va_G) (kd : Nat → ClassId) (b tR tO tT tF L : Nat) (xs : Nat → Int32) : GX := (s.heap, D, kd, fun a => if a = 1000000 then b else if a = 1000001 then tR else if a = 1000002 then tO else if a = 1000003 then tT else tF, fun a => sh_a 389 L a, gM xs)
theorem sh_hi {L a : Nat} (h : 1000003 < a) : sh_a 389 L a = (99, 0) := by
  unfold sh_a
  rw [if_neg (by omega), if_neg (by omega), if_neg (by omega), if_neg (by omega), if_neg (by omega), if_neg (by omega), if_neg (by omega)]
theorem gg_rp {s : State} {D : va_G} {kd : Nat → ClassId} {b tR tO tT tF L : Nat} {xs : Nat → Int32} : Rp (GG s D kd b tR tO tT tF L xs) (T0 L) (gM xs) s.heap := by
  refine ⟨rfl, Nat.zero_le _, fun _ _ => rfl, fun a ha => absurd ha (Nat.not_lt_zero a), fun a _ ha => ?_, fun a ha => ⟨rfl, ?_⟩⟩
  · show (if 1000000 ≤ a then sh_a 389 L a else (99, 0)).1 = 99
    rw [if_neg (by omega)]
  · show (if 1000000 ≤ a then sh_a 389 L a else (99, 0)) = sh_a 389 L a
    rw [if_pos ha]
section STA
variable {args : Array Value} {s : State} {D : va_G} {kd : Nat → ClassId} {b tR tO tT tF L : Nat} {xs : Nat → Int32}
theorem gg_st {cR cO cT : Cell} (hX : va_X b L xs s s.heap) (r2 : s.heap[tR]? = some cR) (r3 : s.isArrayOf cR .int) (r4 : cR.vm ≠ .unknown) (r5 : cR.slots.size = 10) (r6 : ∀ j, j < 10 → cR.slots[j]? = some (.int (dR j)))
    (o2 : s.heap[tO]? = some cO) (o3 : s.isArrayOf cO .byte) (o4 : cO.vm ≠ .unknown) (o5 : cO.slots.size = 100) (o6 : ∀ j, j < 100 → cO.slots[j]? = some (.int (dO j)))
    (t2 : s.heap[tT]? = some cT) (t3 : s.isArrayOf cT .byte) (t4 : cT.vm ≠ .unknown) (t5 : cT.slots.size = 100) (t6 : ∀ j, j < 100 → cT.slots[j]? = some (.int (dT j))) : am_st (GG s D kd b tR tO tT tF L xs) s := by
  intro a ha
  by_cases h3 : 1000003 < a
  · exact Or.inl (by show (sh_a 389 L a).1 = 99; rw [sh_hi h3])
  · right
    rcases (show a = 1000000 ∨ a = 1000001 ∨ a = 1000002 ∨ a = 1000003 by omega) with rfl | rfl | rfl | rfl
    · obtain ⟨scr, x1, x2, x3, x4, x5⟩ := hX
      exact ⟨scr, x1, x3, x4, Or.inl ⟨rfl, x2⟩, fun j hj => ⟨xs j, x5 j hj, rfl⟩⟩
    · exact ⟨cR, r2, r4, r5, Or.inl ⟨rfl, r3⟩, fun j hj => ⟨dR j, r6 j hj, dR_v j hj⟩⟩
    · exact ⟨cO, o2, o4, o5, Or.inr ⟨rfl, o3⟩, fun j hj => ⟨dO j, o6 j hj, dO_v⟩⟩
    · exact ⟨cT, t2, t4, t5, Or.inr ⟨rfl, t3⟩, fun j hj => ⟨dT j, t6 j hj, dT_v hj⟩⟩
theorem ro_g : RO (gM xs) := fun i _ _ => by
  unfold gM
  rw [if_neg (by decide), if_pos rfl]
theorem dg_g : DG (gM xs) := fun j _ _ => by
  unfold gM
  exact ⟨by rw [if_neg (by decide), if_neg (by decide), if_pos rfl], by rw [if_neg (by decide), if_neg (by decide), if_neg (by decide)]⟩
theorem hW_all (hts : ∀ w ∈ lw_tbl, w.before args s = true) : ∀ w ∈ WS, w.before args s = true := by
  intro w hw
  rcases List.mem_cons.mp (List.mem_filter.mp hw).1 with rfl | h2
  · exact sel_priv (n := 4) ⟨by decide, by decide⟩ (hts _ (tb_of (w := .instantiable "java/lang/StringBuilder" 4) 581 (by decide +kernel))) (hts _ (tb_of 622 (by decide +kernel))) (hts _ (tb_of 623 (by decide +kernel))) (hts _ (tb_of 1378 (by decide +kernel)))
  · exact hts w h2
theorem gw_all (hts : ∀ w ∈ lw_tbl, w.before args s = true) (hgv : (Jvm.Cond.and given_1 narrow_1).before args s = true) (hX : va_X b L xs s s.heap) : ∃ (D : va_G) (kd : Nat → ClassId) (tR tO tT tF : Nat), GW (GG s D kd b tR tO tT tF L xs) s := by
  have hfl := flat_of_before _ hgv
  have hW := hW_all hts
  have hA : ∀ a : Nat, a < s.heap.size → ¬ (fun q : Nat => s.heap.size ≤ q) a := fun a h => Nat.not_le.mpr h
  obtain ⟨dC, dI, hK⟩ := kn_all hW
  obtain ⟨kd, hT⟩ := ty_all hts
  obtain ⟨tR, cR, r1, r2, r3, r4, r5, r6⟩ := st_arr (C := "RefsSettle$Sheet") (n := "ROMAN_SIGNS") (d := "[I") (ty := .int) (N := 10) (z := dR) (by decide) (hfl _ (fl_of 5 (by decide +kernel))) (hfl _ (fl_of 6 (by decide +kernel))) (fun j hj => hfl _ (fl_of (7 + j) (fl_R j hj)))
  obtain ⟨tO, cO, o1, o2, o3, o4, o5, o6⟩ := st_arr (C := "java/lang/Integer") (n := "DigitOnes") (d := "[B") (ty := .byte) (N := 100) (z := dO) (by decide) (hfl _ (fl_of 23 (by decide +kernel))) (hfl _ (fl_of 24 (by decide +kernel))) (fun j hj => hfl _ (fl_of (25 + j) (fl_O j hj)))
  obtain ⟨tT, cT, t1, t2, t3, t4, t5, t6⟩ := st_arr (C := "java/lang/Integer") (n := "DigitTens") (d := "[B") (ty := .byte) (N := 100) (z := dT) (by decide) (hfl _ (fl_of 126 (by decide +kernel))) (hfl _ (fl_of 127 (by decide +kernel))) (fun j hj => hfl _ (fl_of (128 + j) (fl_T j hj)))
  have z1 := va_Zof (hts (.laysStatic "RefsSettle$Sheet" "ROMAN_SIGNS" "[I") (tb_of 475 (by decide +kernel))) (hts (.initialized "RefsSettle$Sheet") (tb_of 5 (by decide +kernel))) r1 hA
  have z2 := va_Zof (hts (.laysStatic "java/lang/String" "COMPACT_STRINGS" "Z") (tb_of 590 (by decide +kernel))) (hts (.initialized "java/lang/String") (tb_of 18 (by decide +kernel))) (va_eqi (z := 1) (hfl _ (fl_of 17 (by decide +kernel)))) hA
  have z3 := va_Zof (hts (.laysStatic "java/lang/Integer" "DigitTens" "[B") (tb_of 719 (by decide +kernel))) (hts (.initialized "java/lang/Integer") (tb_of 15 (by decide +kernel))) t1 hA
  have z4 := va_Zof (hts (.laysStatic "java/lang/Integer" "DigitOnes" "[B") (tb_of 717 (by decide +kernel))) (hts (.initialized "java/lang/Integer") (tb_of 15 (by decide +kernel))) o1 hA
  have z5 := va_Zqof (hts (.laysStatic "jdk/internal/util/Preconditions" "SIOOBE_FORMATTER" "Ljava/util/function/BiFunction;") (tb_of 678 (by decide +kernel))) (hts (.initialized "jdk/internal/util/Preconditions") (tb_of 22 (by decide +kernel))) (hfl _ (fl_of 18 (by decide +kernel))) hA
  obtain ⟨tF, z6⟩ : ∃ tF : Nat, va_Z "jdk/internal/util/Preconditions" "SIOOBE_FORMATTER" "Ljava/util/function/BiFunction;" .null (fun q : Nat => s.heap.size ≤ q) s s.heap ∨ va_Z "jdk/internal/util/Preconditions" "SIOOBE_FORMATTER" "Ljava/util/function/BiFunction;" (.ref tF) (fun q : Nat => s.heap.size ≤ q) s s.heap := by
    rcases z5 with z | ⟨t, z⟩
    · exact ⟨0, Or.inl z⟩
    · exact ⟨t, Or.inr z⟩
  refine ⟨(dC, dI), kd, tR, tO, tT, tF, ⟨hK, hT⟩, gg_st hX r2 r3 r4 r5 r6 o2 o3 o4 o5 o6 t2 t3 t4 t5 t6, z1, z2, z3, z4, z6, fun w hw => ?_, hts (.arrayOver (.object "RefsSettle$Sheet")) (tb_of 240 (by decide +kernel)), ?_⟩
  · have h1 := hts w (nlw_in w hw)
    have h2 : w.onTables = true := by
      unfold nlw at hw
      simp only [List.mem_cons, List.mem_nil_iff, or_false] at hw
      rcases hw with rfl | rfl | rfl | rfl | rfl | rfl <;> rfl
    exact va_Nw.of h2 h1
  · exact over_moved (Vm.Alike.refl s.vm) (hts (.arrayOver (.array .int)) (tb_of 38 (by decide +kernel)))
end STA
