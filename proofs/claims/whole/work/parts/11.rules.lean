theorem am_eq {a b : Int32} : a = b ↔ a.toInt = b.toInt := Int32.toInt_inj.symm
theorem am_ne {a b : Int32} : (¬ a = b) ↔ a.toInt ≠ b.toInt := not_congr am_eq
theorem am_lt {a b : Int32} : a < b ↔ a.toInt < b.toInt := Int32.lt_iff_toInt_lt
theorem am_le {a b : Int32} : a ≤ b ↔ a.toInt ≤ b.toInt := Int32.le_iff_toInt_le
theorem am_ge {a b : Int32} : b ≤ a ↔ b.toInt ≤ a.toInt := Int32.le_iff_toInt_le
theorem am_gt {a b : Int32} : b < a ↔ b.toInt < a.toInt := Int32.lt_iff_toInt_lt
theorem am0_eq {a : Int32} : a = 0 ↔ a.toInt = 0 := am_eq
theorem am0_ne {a : Int32} : (¬ a = 0) ↔ a.toInt ≠ 0 := am_ne
theorem am0_lt {a : Int32} : a < 0 ↔ a.toInt < 0 := am_lt
theorem am0_le {a : Int32} : a ≤ 0 ↔ a.toInt ≤ 0 := am_le
theorem am0_ge {a : Int32} : 0 ≤ a ↔ 0 ≤ a.toInt := am_ge
theorem am0_gt {a : Int32} : 0 < a ↔ 0 < a.toInt := am_gt
section AMR
variable {M : MI} {mc ms : Nat} {Q : Option AV → Tp → Mem → Prop} {pc : Nat} {ls : List (Option AV)} {st : List AV} {t : Tp} {h : Mem} {ck sk : Nat}
theorem aw_iconst {n : Int} (hd : decode M.2.1 pc = .ok (.iconst n, 1)) (h1 : -2147483648 ≤ n) (h2 : n ≤ 2147483647) (k : AW M mc ms Q (pc + 1) ls (vI n :: st) t h ck sk) : AW M mc ms Q pc ls st t h ck sk := by
  intro G p l e R s m args below meth c H locs lsC stC C hR hL hS hq
  exact lv_iconst C.1 C.2.1 hd rfl (k G p l e R s m args below meth c H locs lsC _ C hR hL ⟨⟨_, rfl, wr_of h1 h2⟩, hS⟩ hq)
theorem aw_bipush {n : Int} (hd : decode M.2.1 pc = .ok (.bipush n, 2)) (h1 : -128 ≤ n) (h2 : n ≤ 127) (k : AW M mc ms Q (pc + 2) ls (vI n :: st) t h ck sk) : AW M mc ms Q pc ls st t h ck sk := by
  intro G p l e R s m args below meth c H locs lsC stC C hR hL hS hq
  exact lv_bipush C.1 C.2.1 hd rfl (k G p l e R s m args below meth c H locs lsC _ C hR hL ⟨⟨_, rfl, by rw [Int8.toInt_toInt32]; exact Int8.toInt_ofInt_of_le (by omega) (by omega)⟩, hS⟩ hq)
theorem aw_sipush {n : Int} (hd : decode M.2.1 pc = .ok (.sipush n, 3)) (h1 : -32768 ≤ n) (h2 : n ≤ 32767) (k : AW M mc ms Q (pc + 3) ls (vI n :: st) t h ck sk) : AW M mc ms Q pc ls st t h ck sk := by
  intro G p l e R s m args below meth c H locs lsC stC C hR hL hS hq
  exact lv_sipush C.1 C.2.1 hd rfl (k G p l e R s m args below meth c H locs lsC _ C hR hL ⟨⟨_, rfl, by rw [Int16.toInt_toInt32]; exact Int16.toInt_ofInt_of_le (by omega) (by omega)⟩, hS⟩ hq)
theorem aw_ldc {i : Nat} {v : Int32} {n : Int} (hd : decode M.2.1 pc = .ok (.ldc i, 2)) (hw : Cond.constant M.2.2.2.2.1 i v ∈ WS) (hn : v.toInt = n) (k : AW M mc ms Q (pc + 2) ls (vI n :: st) t h ck sk) : AW M mc ms Q pc ls st t h ck sk := by
  intro G p l e R s m args below meth c H locs lsC stC C hR hL hS hq
  exact W.ldc C.1 C.2.1 C.2.2.2.2.1 (C.2.2.2.2.2.1 _ hw) rfl hd (k G p l e R s m args below meth c H locs lsC _ C hR hL ⟨⟨_, rfl, hn⟩, hS⟩ hq)
theorem aw_lconst {n : Fin 2} {z : Int} (hd : decode M.2.1 pc = .ok (.lconst n, 1)) (hn : (Int64.ofNat (n : Nat)).toInt = z) (k : AW M mc ms Q (pc + 1) ls (vL z :: st) t h ck sk) : AW M mc ms Q pc ls st t h ck sk := by
  intro G p l e R s m args below meth c H locs lsC stC C hR hL hS hq
  exact lv_lconst C.1 C.2.1 hd rfl (k G p l e R s m args below meth c H locs lsC _ C hR hL ⟨⟨_, rfl, hn⟩, hS⟩ hq)
theorem aw_ldc2 {i : Nat} {v : Int64} {n : Int} (hd : decode M.2.1 pc = .ok (.ldc2_w i, 3)) (hw : Cond.constantLong M.2.2.2.2.1 i v ∈ WS) (hn : v.toInt = n) (k : AW M mc ms Q (pc + 3) ls (vL n :: st) t h ck sk) : AW M mc ms Q pc ls st t h ck sk := by
  intro G p l e R s m args below meth c H locs lsC stC C hR hL hS hq
  exact W.ldc2 C.1 C.2.1 C.2.2.2.2.1 (C.2.2.2.2.2.1 _ hw) rfl hd (k G p l e R s m args below meth c H locs lsC _ C hR hL ⟨⟨_, rfl, hn⟩, hS⟩ hq)
theorem aw_iload {i : Nat} {x : Int} (hd : decode M.2.1 pc = .ok (.iload i, 2)) (hl : ls[i]? = some (some (vI x))) (k : AW M mc ms Q (pc + 2) ls (vI x :: st) t h ck sk) : AW M mc ms Q pc ls st t h ck sk := by
  intro G p l e R s m args below meth c H locs lsC stC C hR hL hS hq
  obtain ⟨_, e1, y, rfl, e2⟩ := hL.at hl
  exact lv_iload C.1 C.2.1 hd e1 (k G p l e R s m args below meth c H locs lsC _ C hR hL ⟨⟨_, rfl, e2⟩, hS⟩ hq)
theorem aw_iload_n {f : Fin 4} {x : Int} (hd : decode M.2.1 pc = .ok (.iload_n f, 1)) (hl : ls[(f : Nat)]? = some (some (vI x))) (k : AW M mc ms Q (pc + 1) ls (vI x :: st) t h ck sk) : AW M mc ms Q pc ls st t h ck sk := by
  intro G p l e R s m args below meth c H locs lsC stC C hR hL hS hq
  obtain ⟨_, e1, y, rfl, e2⟩ := hL.at hl
  exact lv_iload_n C.1 C.2.1 hd rfl e1 (k G p l e R s m args below meth c H locs lsC _ C hR hL ⟨⟨_, rfl, e2⟩, hS⟩ hq)
theorem aw_lload {i : Nat} {x : Int} (hd : decode M.2.1 pc = .ok (.lload i, 2)) (hl : ls[i]? = some (some (vL x))) (k : AW M mc ms Q (pc + 2) ls (vL x :: st) t h ck sk) : AW M mc ms Q pc ls st t h ck sk := by
  intro G p l e R s m args below meth c H locs lsC stC C hR hL hS hq
  obtain ⟨_, e1, y, rfl, e2⟩ := hL.at hl
  exact lv_lload C.1 C.2.1 hd e1 (k G p l e R s m args below meth c H locs lsC _ C hR hL ⟨⟨_, rfl, e2⟩, hS⟩ hq)
theorem aw_lload_n {f : Fin 4} {x : Int} (hd : decode M.2.1 pc = .ok (.lload_n f, 1)) (hl : ls[(f : Nat)]? = some (some (vL x))) (k : AW M mc ms Q (pc + 1) ls (vL x :: st) t h ck sk) : AW M mc ms Q pc ls st t h ck sk := by
  intro G p l e R s m args below meth c H locs lsC stC C hR hL hS hq
  obtain ⟨_, e1, y, rfl, e2⟩ := hL.at hl
  exact lv_lload_n C.1 C.2.1 hd rfl e1 (k G p l e R s m args below meth c H locs lsC _ C hR hL ⟨⟨_, rfl, e2⟩, hS⟩ hq)
theorem aw_aload {i : Nat} {x : Nat} (hd : decode M.2.1 pc = .ok (.aload i, 2)) (hl : ls[i]? = some (some (vR x))) (k : AW M mc ms Q (pc + 2) ls (vR x :: st) t h ck sk) : AW M mc ms Q pc ls st t h ck sk := by
  intro G p l e R s m args below meth c H locs lsC stC C hR hL hS hq
  obtain ⟨_, e1, rfl⟩ := hL.at hl
  exact lv_aload C.1 C.2.1 hd e1 (k G p l e R s m args below meth c H locs lsC _ C hR hL ⟨rfl, hS⟩ hq)
theorem aw_aload_n {f : Fin 4} {x : Nat} (hd : decode M.2.1 pc = .ok (.aload_n f, 1)) (hl : ls[(f : Nat)]? = some (some (vR x))) (k : AW M mc ms Q (pc + 1) ls (vR x :: st) t h ck sk) : AW M mc ms Q pc ls st t h ck sk := by
  intro G p l e R s m args below meth c H locs lsC stC C hR hL hS hq
  obtain ⟨_, e1, rfl⟩ := hL.at hl
  exact lv_aload_n C.1 C.2.1 hd rfl e1 (k G p l e R s m args below meth c H locs lsC _ C hR hL ⟨rfl, hS⟩ hq)
theorem aw_iaddw {x y : Int} (hd : decode M.2.1 pc = .ok (.iadd, 1)) (k : AW M mc ms Q (pc + 1) ls (vI (wr (x + y)) :: st) t h ck sk) : AW M mc ms Q pc ls (vI y :: vI x :: st) t h ck sk := by
  intro G p l e R s m args below meth c H locs lsC stC C hR hL hS hq
  obtain ⟨b, r1, rfl, rfl, hS1⟩ := SR.i hS
  obtain ⟨a, r2, rfl, rfl, hS2⟩ := SR.i hS1
  exact lv_iadd C.1 C.2.1 hd (k G p l e R s m args below meth c H locs lsC _ C hR hL ⟨⟨_, rfl, by rw [Int32.toInt_add]; exact Int32.toInt_ofInt.symm⟩, hS2⟩ hq)
theorem aw_isubw {x y : Int} (hd : decode M.2.1 pc = .ok (.isub, 1)) (k : AW M mc ms Q (pc + 1) ls (vI (wr (x - y)) :: st) t h ck sk) : AW M mc ms Q pc ls (vI y :: vI x :: st) t h ck sk := by
  intro G p l e R s m args below meth c H locs lsC stC C hR hL hS hq
  obtain ⟨b, r1, rfl, rfl, hS1⟩ := SR.i hS
  obtain ⟨a, r2, rfl, rfl, hS2⟩ := SR.i hS1
  exact lv_isub C.1 C.2.1 hd (k G p l e R s m args below meth c H locs lsC _ C hR hL ⟨⟨_, rfl, by rw [Int32.toInt_sub]; exact Int32.toInt_ofInt.symm⟩, hS2⟩ hq)
theorem aw_imulw {x y : Int} (hd : decode M.2.1 pc = .ok (.imul, 1)) (k : AW M mc ms Q (pc + 1) ls (vI (wr (x * y)) :: st) t h ck sk) : AW M mc ms Q pc ls (vI y :: vI x :: st) t h ck sk := by
  intro G p l e R s m args below meth c H locs lsC stC C hR hL hS hq
  obtain ⟨b, r1, rfl, rfl, hS1⟩ := SR.i hS
  obtain ⟨a, r2, rfl, rfl, hS2⟩ := SR.i hS1
  exact lv_imul C.1 C.2.1 hd (k G p l e R s m args below meth c H locs lsC _ C hR hL ⟨⟨_, rfl, by rw [Int32.toInt_mul]; exact Int32.toInt_ofInt.symm⟩, hS2⟩ hq)
theorem aw_iandw {x y : Int} (hd : decode M.2.1 pc = .ok (.iand, 1)) (k : AW M mc ms Q (pc + 1) ls (vI ((Int32.ofInt x &&& Int32.ofInt y).toInt) :: st) t h ck sk) : AW M mc ms Q pc ls (vI y :: vI x :: st) t h ck sk := by
  intro G p l e R s m args below meth c H locs lsC stC C hR hL hS hq
  obtain ⟨b, r1, rfl, rfl, hS1⟩ := SR.i hS
  obtain ⟨a, r2, rfl, rfl, hS2⟩ := SR.i hS1
  exact lv_iand C.1 C.2.1 hd (k G p l e R s m args below meth c H locs lsC _ C hR hL ⟨⟨_, rfl, by rw [Int32.ofInt_toInt, Int32.ofInt_toInt]⟩, hS2⟩ hq)
theorem aw_iorw {x y : Int} (hd : decode M.2.1 pc = .ok (.ior, 1)) (k : AW M mc ms Q (pc + 1) ls (vI ((Int32.ofInt x ||| Int32.ofInt y).toInt) :: st) t h ck sk) : AW M mc ms Q pc ls (vI y :: vI x :: st) t h ck sk := by
  intro G p l e R s m args below meth c H locs lsC stC C hR hL hS hq
  obtain ⟨b, r1, rfl, rfl, hS1⟩ := SR.i hS
  obtain ⟨a, r2, rfl, rfl, hS2⟩ := SR.i hS1
  exact lv_ior C.1 C.2.1 hd (k G p l e R s m args below meth c H locs lsC _ C hR hL ⟨⟨_, rfl, by rw [Int32.ofInt_toInt, Int32.ofInt_toInt]⟩, hS2⟩ hq)
theorem aw_ixorw {x y : Int} (hd : decode M.2.1 pc = .ok (.ixor, 1)) (k : AW M mc ms Q (pc + 1) ls (vI ((Int32.ofInt x ^^^ Int32.ofInt y).toInt) :: st) t h ck sk) : AW M mc ms Q pc ls (vI y :: vI x :: st) t h ck sk := by
  intro G p l e R s m args below meth c H locs lsC stC C hR hL hS hq
  obtain ⟨b, r1, rfl, rfl, hS1⟩ := SR.i hS
  obtain ⟨a, r2, rfl, rfl, hS2⟩ := SR.i hS1
  exact lv_ixor C.1 C.2.1 hd (k G p l e R s m args below meth c H locs lsC _ C hR hL ⟨⟨_, rfl, by rw [Int32.ofInt_toInt, Int32.ofInt_toInt]⟩, hS2⟩ hq)
theorem aw_ishlw {x y : Int} (hd : decode M.2.1 pc = .ok (.ishl, 1)) (k : AW M mc ms Q (pc + 1) ls (vI ((Int32.ofInt x <<< (Int32.ofInt y &&& 31)).toInt) :: st) t h ck sk) : AW M mc ms Q pc ls (vI y :: vI x :: st) t h ck sk := by
  intro G p l e R s m args below meth c H locs lsC stC C hR hL hS hq
  obtain ⟨b, r1, rfl, rfl, hS1⟩ := SR.i hS
  obtain ⟨a, r2, rfl, rfl, hS2⟩ := SR.i hS1
  exact lv_ishl C.1 C.2.1 hd (k G p l e R s m args below meth c H locs lsC _ C hR hL ⟨⟨_, rfl, by rw [Int32.ofInt_toInt, Int32.ofInt_toInt]⟩, hS2⟩ hq)
theorem aw_ishrw {x y : Int} (hd : decode M.2.1 pc = .ok (.ishr, 1)) (k : AW M mc ms Q (pc + 1) ls (vI ((Int32.ofInt x >>> (Int32.ofInt y &&& 31)).toInt) :: st) t h ck sk) : AW M mc ms Q pc ls (vI y :: vI x :: st) t h ck sk := by
  intro G p l e R s m args below meth c H locs lsC stC C hR hL hS hq
  obtain ⟨b, r1, rfl, rfl, hS1⟩ := SR.i hS
  obtain ⟨a, r2, rfl, rfl, hS2⟩ := SR.i hS1
  exact lv_ishr C.1 C.2.1 hd (k G p l e R s m args below meth c H locs lsC _ C hR hL ⟨⟨_, rfl, by rw [Int32.ofInt_toInt, Int32.ofInt_toInt]⟩, hS2⟩ hq)
theorem aw_iadd {x y : Int} (hd : decode M.2.1 pc = .ok (.iadd, 1)) (h1 : -2147483648 ≤ x + y) (h2 : x + y ≤ 2147483647) (k : AW M mc ms Q (pc + 1) ls (vI (x + y) :: st) t h ck sk) : AW M mc ms Q pc ls (vI y :: vI x :: st) t h ck sk :=
  aw_iaddw hd (by rw [wr_of h1 h2]; exact k)
theorem aw_isub {x y : Int} (hd : decode M.2.1 pc = .ok (.isub, 1)) (h1 : -2147483648 ≤ x - y) (h2 : x - y ≤ 2147483647) (k : AW M mc ms Q (pc + 1) ls (vI (x - y) :: st) t h ck sk) : AW M mc ms Q pc ls (vI y :: vI x :: st) t h ck sk :=
  aw_isubw hd (by rw [wr_of h1 h2]; exact k)
theorem aw_imul {x y : Int} (hd : decode M.2.1 pc = .ok (.imul, 1)) (h1 : -2147483648 ≤ x * y) (h2 : x * y ≤ 2147483647) (k : AW M mc ms Q (pc + 1) ls (vI (x * y) :: st) t h ck sk) : AW M mc ms Q pc ls (vI y :: vI x :: st) t h ck sk :=
  aw_imulw hd (by rw [wr_of h1 h2]; exact k)
theorem aw_inegw {x : Int} (hd : decode M.2.1 pc = .ok (.ineg, 1)) (k : AW M mc ms Q (pc + 1) ls (vI (wr (-x)) :: st) t h ck sk) : AW M mc ms Q pc ls (vI x :: st) t h ck sk := by
  intro G p l e R s m args below meth c H locs lsC stC C hR hL hS hq
  obtain ⟨a, r, rfl, rfl, hS1⟩ := SR.i hS
  exact lv_ineg C.1 C.2.1 hd (k G p l e R s m args below meth c H locs lsC _ C hR hL ⟨⟨_, rfl, by rw [Int32.toInt_neg]; exact Int32.toInt_ofInt.symm⟩, hS1⟩ hq)
theorem aw_ineg {x : Int} (hd : decode M.2.1 pc = .ok (.ineg, 1)) (h1 : -2147483648 ≤ -x) (h2 : -x ≤ 2147483647) (k : AW M mc ms Q (pc + 1) ls (vI (-x) :: st) t h ck sk) : AW M mc ms Q pc ls (vI x :: st) t h ck sk :=
  aw_inegw hd (by rw [wr_of h1 h2]; exact k)
theorem i32_div {a b : Int32} (ha : 0 ≤ a.toInt) (hb : 0 < b.toInt) : (a / b).toInt = a.toInt / b.toInt := by
  rw [Int32.toInt_div_of_ne_right _ _ (fun e => by rw [e] at hb; exact absurd hb (by decide)), Int.tdiv_eq_ediv_of_nonneg ha]
theorem i32_rem {a b : Int32} (ha : 0 ≤ a.toInt) (hb : 0 < b.toInt) : (a - a / b * b).toInt = a.toInt % b.toInt := by
  rw [Int32.toInt_sub, Int32.toInt_mul, i32_div ha hb]
  have h1 := i32_lo a
  have h2 := i32_hi a
  have h3 : a.toInt / b.toInt * b.toInt ≤ a.toInt := Int.ediv_mul_le _ (by omega)
  have h4 : 0 ≤ a.toInt / b.toInt * b.toInt := Int.mul_nonneg (Int.ediv_nonneg ha (by omega)) (by omega)
  rw [Int.bmod_eq_of_le (n := a.toInt / b.toInt * b.toInt) (by omega) (by omega)]
  have h5 : a.toInt % b.toInt = a.toInt - a.toInt / b.toInt * b.toInt := by
    have := Int.mul_ediv_add_emod a.toInt b.toInt
    rw [Int.mul_comm] at this
    omega
  rw [h5]
  exact Int.bmod_eq_of_le (by omega) (by omega)
theorem i32_ne0 {b : Int32} (hb : 0 < b.toInt) : ¬ b = 0 := fun e => by rw [e] at hb; exact absurd hb (by decide)
theorem aw_idiv {x y : Int} (hd : decode M.2.1 pc = .ok (.idiv, 1)) (hx : 0 ≤ x) (hy : 0 < y) (k : AW M mc ms Q (pc + 1) ls (vI (x / y) :: st) t h ck sk) : AW M mc ms Q pc ls (vI y :: vI x :: st) t h ck sk := by
  intro G p l e R s m args below meth c H locs lsC stC C hR hL hS hq
  obtain ⟨b, r1, rfl, rfl, hS1⟩ := SR.i hS
  obtain ⟨a, r2, rfl, rfl, hS2⟩ := SR.i hS1
  exact lv_idiv C.1 C.2.1 hd (i32_ne0 hy) (k G p l e R s m args below meth c H locs lsC _ C hR hL ⟨⟨_, rfl, i32_div hx hy⟩, hS2⟩ hq)
theorem aw_irem {x y : Int} (hd : decode M.2.1 pc = .ok (.irem, 1)) (hx : 0 ≤ x) (hy : 0 < y) (k : AW M mc ms Q (pc + 1) ls (vI (x % y) :: st) t h ck sk) : AW M mc ms Q pc ls (vI y :: vI x :: st) t h ck sk := by
  intro G p l e R s m args below meth c H locs lsC stC C hR hL hS hq
  obtain ⟨b, r1, rfl, rfl, hS1⟩ := SR.i hS
  obtain ⟨a, r2, rfl, rfl, hS2⟩ := SR.i hS1
  exact lv_irem C.1 C.2.1 hd (i32_ne0 hy) (k G p l e R s m args below meth c H locs lsC _ C hR hL ⟨⟨_, rfl, i32_rem hx hy⟩, hS2⟩ hq)
theorem aw_icmp_eq {x y : Int} {off : Int} (tgt : Nat) (hd : decode M.2.1 pc = .ok (.if_icmp .eq off, 3)) (ht : (pc : Int) + off = (tgt : Int)) (k1 : x = y → AW M mc ms Q tgt ls st t h ck sk) (k2 : ¬ x = y → AW M mc ms Q (pc + 3) ls st t h ck sk) : AW M mc ms Q pc ls (vI y :: vI x :: st) t h ck sk := by
  intro G p l e R s m args below meth c H locs lsC stC C hR hL hS hq
  obtain ⟨b, r1, rfl, rfl, hS1⟩ := SR.i hS
  obtain ⟨a, r2, rfl, rfl, hS2⟩ := SR.i hS1
  exact lv_icmp_eq C.1 C.2.1 hd ht (fun hc => k1 (am_eq.mp hc) G p l e R s m args below meth c H locs lsC _ C hR hL hS2 hq) (fun hc => k2 (fun z => hc (am_eq.mpr z)) G p l e R s m args below meth c H locs lsC _ C hR hL hS2 hq)
theorem aw_if_eq {x : Int} {off : Int} (tgt : Nat) (hd : decode M.2.1 pc = .ok (.ifCond .eq off, 3)) (ht : (pc : Int) + off = (tgt : Int)) (k1 : x = 0 → AW M mc ms Q tgt ls st t h ck sk) (k2 : ¬ x = 0 → AW M mc ms Q (pc + 3) ls st t h ck sk) : AW M mc ms Q pc ls (vI x :: st) t h ck sk := by
  intro G p l e R s m args below meth c H locs lsC stC C hR hL hS hq
  obtain ⟨a, r, rfl, rfl, hS1⟩ := SR.i hS
  exact lv_if_eq C.1 C.2.1 hd ht (fun hc => k1 (am0_eq.mp hc) G p l e R s m args below meth c H locs lsC _ C hR hL hS1 hq) (fun hc => k2 (fun z => hc (am0_eq.mpr z)) G p l e R s m args below meth c H locs lsC _ C hR hL hS1 hq)
theorem aw_icmp_ne {x y : Int} {off : Int} (tgt : Nat) (hd : decode M.2.1 pc = .ok (.if_icmp .ne off, 3)) (ht : (pc : Int) + off = (tgt : Int)) (k1 : x ≠ y → AW M mc ms Q tgt ls st t h ck sk) (k2 : x = y → AW M mc ms Q (pc + 3) ls st t h ck sk) : AW M mc ms Q pc ls (vI y :: vI x :: st) t h ck sk := by
  intro G p l e R s m args below meth c H locs lsC stC C hR hL hS hq
  obtain ⟨b, r1, rfl, rfl, hS1⟩ := SR.i hS
  obtain ⟨a, r2, rfl, rfl, hS2⟩ := SR.i hS1
  exact lv_icmp_ne C.1 C.2.1 hd ht (fun hc => k1 (am_ne.mp hc) G p l e R s m args below meth c H locs lsC _ C hR hL hS2 hq) (fun hc => k2 (am_eq.mp hc) G p l e R s m args below meth c H locs lsC _ C hR hL hS2 hq)
theorem aw_if_ne {x : Int} {off : Int} (tgt : Nat) (hd : decode M.2.1 pc = .ok (.ifCond .ne off, 3)) (ht : (pc : Int) + off = (tgt : Int)) (k1 : x ≠ 0 → AW M mc ms Q tgt ls st t h ck sk) (k2 : x = 0 → AW M mc ms Q (pc + 3) ls st t h ck sk) : AW M mc ms Q pc ls (vI x :: st) t h ck sk := by
  intro G p l e R s m args below meth c H locs lsC stC C hR hL hS hq
  obtain ⟨a, r, rfl, rfl, hS1⟩ := SR.i hS
  exact lv_if_ne C.1 C.2.1 hd ht (fun hc => k1 (am0_ne.mp hc) G p l e R s m args below meth c H locs lsC _ C hR hL hS1 hq) (fun hc => k2 (am0_eq.mp hc) G p l e R s m args below meth c H locs lsC _ C hR hL hS1 hq)
theorem aw_icmp_lt {x y : Int} {off : Int} (tgt : Nat) (hd : decode M.2.1 pc = .ok (.if_icmp .lt off, 3)) (ht : (pc : Int) + off = (tgt : Int)) (k1 : x < y → AW M mc ms Q tgt ls st t h ck sk) (k2 : ¬ x < y → AW M mc ms Q (pc + 3) ls st t h ck sk) : AW M mc ms Q pc ls (vI y :: vI x :: st) t h ck sk := by
  intro G p l e R s m args below meth c H locs lsC stC C hR hL hS hq
  obtain ⟨b, r1, rfl, rfl, hS1⟩ := SR.i hS
  obtain ⟨a, r2, rfl, rfl, hS2⟩ := SR.i hS1
  exact lv_icmp_lt C.1 C.2.1 hd ht (fun hc => k1 (am_lt.mp hc) G p l e R s m args below meth c H locs lsC _ C hR hL hS2 hq) (fun hc => k2 (fun z => hc (am_lt.mpr z)) G p l e R s m args below meth c H locs lsC _ C hR hL hS2 hq)
theorem aw_if_lt {x : Int} {off : Int} (tgt : Nat) (hd : decode M.2.1 pc = .ok (.ifCond .lt off, 3)) (ht : (pc : Int) + off = (tgt : Int)) (k1 : x < 0 → AW M mc ms Q tgt ls st t h ck sk) (k2 : ¬ x < 0 → AW M mc ms Q (pc + 3) ls st t h ck sk) : AW M mc ms Q pc ls (vI x :: st) t h ck sk := by
  intro G p l e R s m args below meth c H locs lsC stC C hR hL hS hq
  obtain ⟨a, r, rfl, rfl, hS1⟩ := SR.i hS
  exact lv_if_lt C.1 C.2.1 hd ht (fun hc => k1 (am0_lt.mp hc) G p l e R s m args below meth c H locs lsC _ C hR hL hS1 hq) (fun hc => k2 (fun z => hc (am0_lt.mpr z)) G p l e R s m args below meth c H locs lsC _ C hR hL hS1 hq)
theorem aw_icmp_ge {x y : Int} {off : Int} (tgt : Nat) (hd : decode M.2.1 pc = .ok (.if_icmp .ge off, 3)) (ht : (pc : Int) + off = (tgt : Int)) (k1 : y ≤ x → AW M mc ms Q tgt ls st t h ck sk) (k2 : ¬ y ≤ x → AW M mc ms Q (pc + 3) ls st t h ck sk) : AW M mc ms Q pc ls (vI y :: vI x :: st) t h ck sk := by
  intro G p l e R s m args below meth c H locs lsC stC C hR hL hS hq
  obtain ⟨b, r1, rfl, rfl, hS1⟩ := SR.i hS
  obtain ⟨a, r2, rfl, rfl, hS2⟩ := SR.i hS1
  exact lv_icmp_ge C.1 C.2.1 hd ht (fun hc => k1 (am_ge.mp hc) G p l e R s m args below meth c H locs lsC _ C hR hL hS2 hq) (fun hc => k2 (fun z => hc (am_ge.mpr z)) G p l e R s m args below meth c H locs lsC _ C hR hL hS2 hq)
theorem aw_if_ge {x : Int} {off : Int} (tgt : Nat) (hd : decode M.2.1 pc = .ok (.ifCond .ge off, 3)) (ht : (pc : Int) + off = (tgt : Int)) (k1 : 0 ≤ x → AW M mc ms Q tgt ls st t h ck sk) (k2 : ¬ 0 ≤ x → AW M mc ms Q (pc + 3) ls st t h ck sk) : AW M mc ms Q pc ls (vI x :: st) t h ck sk := by
  intro G p l e R s m args below meth c H locs lsC stC C hR hL hS hq
  obtain ⟨a, r, rfl, rfl, hS1⟩ := SR.i hS
  exact lv_if_ge C.1 C.2.1 hd ht (fun hc => k1 (am0_ge.mp hc) G p l e R s m args below meth c H locs lsC _ C hR hL hS1 hq) (fun hc => k2 (fun z => hc (am0_ge.mpr z)) G p l e R s m args below meth c H locs lsC _ C hR hL hS1 hq)
theorem aw_icmp_gt {x y : Int} {off : Int} (tgt : Nat) (hd : decode M.2.1 pc = .ok (.if_icmp .gt off, 3)) (ht : (pc : Int) + off = (tgt : Int)) (k1 : y < x → AW M mc ms Q tgt ls st t h ck sk) (k2 : ¬ y < x → AW M mc ms Q (pc + 3) ls st t h ck sk) : AW M mc ms Q pc ls (vI y :: vI x :: st) t h ck sk := by
  intro G p l e R s m args below meth c H locs lsC stC C hR hL hS hq
  obtain ⟨b, r1, rfl, rfl, hS1⟩ := SR.i hS
  obtain ⟨a, r2, rfl, rfl, hS2⟩ := SR.i hS1
  exact lv_icmp_gt C.1 C.2.1 hd ht (fun hc => k1 (am_gt.mp hc) G p l e R s m args below meth c H locs lsC _ C hR hL hS2 hq) (fun hc => k2 (fun z => hc (am_gt.mpr z)) G p l e R s m args below meth c H locs lsC _ C hR hL hS2 hq)
theorem aw_if_gt {x : Int} {off : Int} (tgt : Nat) (hd : decode M.2.1 pc = .ok (.ifCond .gt off, 3)) (ht : (pc : Int) + off = (tgt : Int)) (k1 : 0 < x → AW M mc ms Q tgt ls st t h ck sk) (k2 : ¬ 0 < x → AW M mc ms Q (pc + 3) ls st t h ck sk) : AW M mc ms Q pc ls (vI x :: st) t h ck sk := by
  intro G p l e R s m args below meth c H locs lsC stC C hR hL hS hq
  obtain ⟨a, r, rfl, rfl, hS1⟩ := SR.i hS
  exact lv_if_gt C.1 C.2.1 hd ht (fun hc => k1 (am0_gt.mp hc) G p l e R s m args below meth c H locs lsC _ C hR hL hS1 hq) (fun hc => k2 (fun z => hc (am0_gt.mpr z)) G p l e R s m args below meth c H locs lsC _ C hR hL hS1 hq)
theorem aw_icmp_le {x y : Int} {off : Int} (tgt : Nat) (hd : decode M.2.1 pc = .ok (.if_icmp .le off, 3)) (ht : (pc : Int) + off = (tgt : Int)) (k1 : x ≤ y → AW M mc ms Q tgt ls st t h ck sk) (k2 : ¬ x ≤ y → AW M mc ms Q (pc + 3) ls st t h ck sk) : AW M mc ms Q pc ls (vI y :: vI x :: st) t h ck sk := by
  intro G p l e R s m args below meth c H locs lsC stC C hR hL hS hq
  obtain ⟨b, r1, rfl, rfl, hS1⟩ := SR.i hS
  obtain ⟨a, r2, rfl, rfl, hS2⟩ := SR.i hS1
  exact lv_icmp_le C.1 C.2.1 hd ht (fun hc => k1 (am_le.mp hc) G p l e R s m args below meth c H locs lsC _ C hR hL hS2 hq) (fun hc => k2 (fun z => hc (am_le.mpr z)) G p l e R s m args below meth c H locs lsC _ C hR hL hS2 hq)
theorem aw_if_le {x : Int} {off : Int} (tgt : Nat) (hd : decode M.2.1 pc = .ok (.ifCond .le off, 3)) (ht : (pc : Int) + off = (tgt : Int)) (k1 : x ≤ 0 → AW M mc ms Q tgt ls st t h ck sk) (k2 : ¬ x ≤ 0 → AW M mc ms Q (pc + 3) ls st t h ck sk) : AW M mc ms Q pc ls (vI x :: st) t h ck sk := by
  intro G p l e R s m args below meth c H locs lsC stC C hR hL hS hq
  obtain ⟨a, r, rfl, rfl, hS1⟩ := SR.i hS
  exact lv_if_le C.1 C.2.1 hd ht (fun hc => k1 (am0_le.mp hc) G p l e R s m args below meth c H locs lsC _ C hR hL hS1 hq) (fun hc => k2 (fun z => hc (am0_le.mpr z)) G p l e R s m args below meth c H locs lsC _ C hR hL hS1 hq)
theorem aw_goto {off : Int} (tgt : Nat) (hd : decode M.2.1 pc = .ok (.goto off, 3)) (ht : (pc : Int) + off = (tgt : Int)) (k : AW M mc ms Q tgt ls st t h ck sk) : AW M mc ms Q pc ls st t h ck sk := by
  intro G p l e R s m args below meth c H locs lsC stC C hR hL hS hq
  exact lv_goto C.1 C.2.1 hd ht (k G p l e R s m args below meth c H locs lsC _ C hR hL hS hq)
end AMR
