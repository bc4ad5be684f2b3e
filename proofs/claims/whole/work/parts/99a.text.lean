/-! texts: a StringBuilder of at most 16 small letters -/
def IsTx (t : Tp) (x : Nat) : Prop := t.2.1 x = (0, 4) ∧ t.2.1 (x + 1) = (21, 16) ∧ t.2.2 x 0 = some (x + 1) ∧ x + 1 < 1000000
def TXh (h : Mem) (x n : Nat) (g : Nat → Int) : Prop := h x 1 = 0 ∧ h x 3 = (n : Int) ∧ n ≤ 16 ∧ ∀ j : Nat, j < n → h (x + 1) j = g j ∧ 0 ≤ g j ∧ g j ≤ 127
def DG (h : Mem) : Prop := ∀ j : Int, 0 ≤ j → j < 100 → h 1000002 j = 48 + j % 10 ∧ h 1000003 j = 48 + j / 10
theorem and255 : ∀ b : Nat, b < 128 → (Int32.ofInt (b : Int) &&& Int32.ofInt 255).toInt = (b : Int) := by decide
theorem bm_s {c : Int} (h0 : 0 ≤ c) (h1 : c ≤ 127) : c.bmod 256 = c := Int.bmod_eq_of_le (by omega) (by omega)
theorem am_char {a : Int32} (h0 : 0 ≤ a.toInt) (h1 : a.toInt ≤ 65535) : narrow .char (.int a) = .int a := by
  show Value.int (a.toUInt32.toUInt16.toUInt32.toInt32) = .int a
  have en : a.toBitVec.toInt = a.toInt := rfl
  have ec := BitVec.toInt_eq_toNat_cond a.toBitVec
  have lt := a.toBitVec.isLt
  have e2 : (a.toUInt32.toNat : Int) = a.toInt := by
    show (a.toBitVec.toNat : Int) = a.toInt
    rw [en] at ec
    split at ec <;> omega
  have e3 : a.toUInt32.toUInt16.toUInt32 = a.toUInt32 := by
    apply UInt32.toNat_inj.mp
    rw [UInt16.toNat_toUInt32, UInt32.toNat_toUInt16]
    omega
  rw [e3]
  rfl
theorem aw_creturn {M : MI} {mc ms : Nat} {Q : Option AV → Tp → Mem → Prop} {pc : Nat} {ls : List (Option AV)} {t : Tp} {h : Mem} {ck sk : Nat} {x : Int} (hd : decode M.2.1 pc = .ok (.ireturn, 1)) (hr : M.2.2.2.1 = some .char) (hc : ck ≤ mc) (hs : sk ≤ ms) (h1 : 0 ≤ x) (h2 : x ≤ 65535) (hQ : Q (some (vI x)) t h) : AW M mc ms Q pc ls [vI x] t h ck sk := by
  intro G p l e R s m args below meth c H locs lsC stC C hR hL hS hq
  obtain ⟨a, r, rfl, rfl, hS1⟩ := SR.i hS
  cases SR.nil hS1
  exact W.widen hc hs (W.zret C.1 C.2.1 (C.2.2.1.trans hr) (am_char h1 h2) (fun t2 ht hW => ⟨_, _, _, _, hQ, rfl, ⟨⟨_, rfl, rfl⟩, trivial⟩, by rw [ht]; exact hR⟩) hq hd C.2.2.2.2.2.2.1)
section TXT
variable {t : Tp} {h : Mem} {x n : Nat} {g : Nat → Int}
theorem c_J1_canEncode {c : Int} (h1 : c ≤ 255) : SemE M_J1_canEncode_fc78d [vI c] t h (some (vI 1)) t h := by
  refine sem_intro (by decide) rfl (Nat.le_of_ble_eq_true rfl) rfl ?_
  refine aw_iload_n dJ1_canEncode_fc78d_0 rfl ?_
  refine aw_sipush dJ1_canEncode_fc78d_1 (by decide) (by decide) ?_
  refine aw_icmp_gt 11 dJ1_canEncode_fc78d_4 rfl (fun c4 => ?_) (fun c4 => ?_)
  · exfalso; omega
  · refine aw_iconst dJ1_canEncode_fc78d_7 (by decide) (by decide) ?_
    refine aw_goto 12 dJ1_canEncode_fc78d_8 rfl ?_
    refine aw_zreturn dJ1_canEncode_fc78d_12 rfl (Nat.le_refl _) (Nat.le_refl _) (by first | decide | omega) (by first | decide | omega) ?_
    exact ⟨rfl, rfl, rfl⟩
theorem c_J5_isLatin1 (hx : IsTx t x) (hc : h x 1 = 0) : SemE M_J5_isLatin1_aae02 [vR x] t h (some (vI 1)) t h := by
  have hx0 := hx.1
  refine sem_intro (by decide) rfl (Nat.le_of_ble_eq_true rfl) rfl ?_
  refine aw_gs_COMPACT_STRINGS dJ5_isLatin1_aae02_0 gs_RJ5_18 ?_
  refine aw_if_eq 17 dJ5_isLatin1_aae02_3 rfl (fun c3 => ?_) (fun c3 => ?_)
  · exfalso; omega
  · refine aw_aload_n dJ5_isLatin1_aae02_6 rfl ?_
    refine aw_getI dJ5_isLatin1_aae02_7 fx_RJ5_22 (by first | rfl | assumption) ?_
    rw [hc]
    refine aw_if_ne 17 dJ5_isLatin1_aae02_10 rfl (fun c10 => ?_) (fun c10 => ?_)
    · exfalso; omega
    · refine aw_iconst dJ5_isLatin1_aae02_13 (by decide) (by decide) ?_
      refine aw_goto 18 dJ5_isLatin1_aae02_14 rfl ?_
      refine aw_zreturn dJ5_isLatin1_aae02_18 rfl (Nat.le_refl _) (Nat.le_refl _) (by first | decide | omega) (by first | decide | omega) ?_
      exact ⟨rfl, rfl, rfl⟩
theorem c_J5_ensure {k : Int} (hx : IsTx t x) (hc : h x 1 = 0) (k0 : 0 ≤ k) (k1 : k ≤ 16) : SemE M_J5_ensureCapacityInternal_d00df [vR x, vI k] t h none t h := by
  obtain ⟨hx0, hx1, hx2, hx3⟩ := hx
  have e16 : (Int32.ofInt 16 >>> (Int32.ofInt 0 &&& 31)).toInt = 16 := by decide
  refine sem_intro (by decide) rfl (Nat.le_of_ble_eq_true rfl) rfl ?_
  refine aw_aload_n dJ5_ensureCapacityInternal_d00df_0 rfl ?_
  refine aw_getR1 dJ5_ensureCapacityInternal_d00df_1 fx_RJ5_15 (by first | rfl | assumption) (by first | rfl | assumption) ?_
  refine aw_blen dJ5_ensureCapacityInternal_d00df_4 (by first | rfl | assumption) rfl (by decide) ?_
  refine aw_aload_n dJ5_ensureCapacityInternal_d00df_5 rfl ?_
  refine aw_getI dJ5_ensureCapacityInternal_d00df_6 fx_RJ5_22 (by first | rfl | assumption) ?_
  rw [hc]
  refine aw_ishrw dJ5_ensureCapacityInternal_d00df_9 ?_
  rw [show ((16 : Nat) : Int) = 16 from rfl, e16]
  refine aw_istore_n (ls' := [_, _, _]) dJ5_ensureCapacityInternal_d00df_10 (by decide) rfl ?_
  refine aw_iload_n dJ5_ensureCapacityInternal_d00df_11 rfl ?_
  refine aw_iload_n dJ5_ensureCapacityInternal_d00df_12 rfl ?_
  refine aw_isub dJ5_ensureCapacityInternal_d00df_13 (by omega) (by omega) ?_
  refine aw_if_le 38 dJ5_ensureCapacityInternal_d00df_14 rfl (fun c14 => ?_) (fun c14 => ?_)
  · refine aw_return dJ5_ensureCapacityInternal_d00df_38 rfl (Nat.le_refl _) (Nat.le_refl _) ?_
    exact ⟨rfl, rfl, rfl⟩
  · exfalso; omega
theorem c_J5_appendC {c : Int} (hx : IsTx t x) (hT : TXh h x n g) (hn : n < 16) (c0 : 0 ≤ c) (c1 : c ≤ 127) : SemE M_J5_append_3fe6f [vR x, vI c] t h (some (vR x)) t (am_up (am_up h x 3 ((n : Int) + 1)) (x + 1) n c) := by
  obtain ⟨hx0, hx1, hx2, hx3⟩ := id hx
  obtain ⟨t1, t2, t3, t4⟩ := hT
  have hb := bm_s c0 c1
  refine sem_intro (by decide) rfl (Nat.le_of_ble_eq_true rfl) rfl ?_
  refine aw_aload_n dJ5_append_3fe6f_0 rfl ?_
  refine aw_aload_n dJ5_append_3fe6f_1 rfl ?_
  refine aw_getI dJ5_append_3fe6f_2 fx_RJ5_79 (by first | rfl | assumption) ?_
  rw [t2]
  refine aw_iconst dJ5_append_3fe6f_5 (by decide) (by decide) ?_
  refine aw_iadd dJ5_append_3fe6f_6 (by omega) (by omega) ?_
  refine aw_callU dJ5_append_3fe6f_7 uv_RJ5_100 (c_J5_ensure hx t1 (by omega) (by omega)) (by first | rfl | assumption) rfl rfl (Nat.le_of_ble_eq_true rfl) (Nat.le_of_ble_eq_true rfl) (Nat.le_of_ble_eq_true rfl) (by omega) (by omega) ?_
  intro v_ t_ h_ hq_
  obtain ⟨rfl, rfl, rfl⟩ := hq_
  refine aw_aload_n dJ5_append_3fe6f_10 rfl ?_
  refine aw_callU dJ5_append_3fe6f_11 uv_RJ5_83 (c_J5_isLatin1 hx t1) (by first | rfl | assumption) rfl rfl (Nat.le_of_ble_eq_true rfl) (Nat.le_of_ble_eq_true rfl) (Nat.le_of_ble_eq_true rfl) (by omega) (by omega) ?_
  intro v_ t_ h_ hq_
  obtain ⟨rfl, rfl, rfl⟩ := hq_
  refine aw_if_eq 45 dJ5_append_3fe6f_14 rfl (fun c14 => ?_) (fun c14 => ?_)
  · exfalso; omega
  · refine aw_iload_n dJ5_append_3fe6f_17 rfl ?_
    refine aw_s1i dJ5_append_3fe6f_18 sl_RJ5_191 (Nat.le_of_ble_eq_true rfl) (Nat.le_of_ble_eq_true rfl) (Nat.le_of_ble_eq_true rfl) (Nat.le_refl _) (Nat.le_refl _) (c_J1_canEncode (by omega)) ?_
    refine aw_if_eq 45 dJ5_append_3fe6f_21 rfl (fun c21 => ?_) (fun c21 => ?_)
    · exfalso; omega
    · refine aw_aload_n dJ5_append_3fe6f_24 rfl ?_
      refine aw_getR1 dJ5_append_3fe6f_25 fx_RJ5_15 (by first | rfl | assumption) (by first | rfl | assumption) ?_
      refine aw_aload_n dJ5_append_3fe6f_28 rfl ?_
      refine aw_dup dJ5_append_3fe6f_29 rfl ?_
      refine aw_getI dJ5_append_3fe6f_30 fx_RJ5_79 (by first | rfl | assumption) ?_
      rw [t2]
      refine aw_dup_x1 dJ5_append_3fe6f_33 rfl rfl ?_
      refine aw_iconst dJ5_append_3fe6f_34 (by decide) (by decide) ?_
      refine aw_iadd dJ5_append_3fe6f_35 (by omega) (by omega) ?_
      refine aw_putI dJ5_append_3fe6f_36 fp_RJ5_79 (by first | rfl | assumption) ?_
      refine aw_iload_n dJ5_append_3fe6f_39 rfl ?_
      refine aw_i2b dJ5_append_3fe6f_40 ?_
      rw [hb]
      refine aw_bastore dJ5_append_3fe6f_41 (by first | rfl | assumption) (by omega) (by omega) (by omega) ?_
      rw [hb]
      refine aw_goto 75 dJ5_append_3fe6f_42 rfl ?_
      refine aw_aload_n dJ5_append_3fe6f_75 rfl ?_
      refine aw_areturn dJ5_append_3fe6f_76 rfl (by first | exact Or.inl ⟨_, rfl⟩ | exact Or.inr ⟨_, rfl⟩) (Nat.le_refl _) (Nat.le_refl _) ?_
      exact ⟨rfl, rfl, rfl⟩
def QTx (x n : Nat) (g : Nat → Int) (h : Mem) (t : Tp) : Option AV → Tp → Mem → Prop := fun v t' h' => v = some (vR x) ∧ t' = t ∧ TXh h' x n g ∧ ∀ c, c ≠ x → c ≠ x + 1 → h' c = h c
theorem c_J4_appendC {c : Int} (hx : IsTx t x) (hT : TXh h x n g) (hn : n < 16) (c0 : 0 ≤ c) (c1 : c ≤ 127) : Sem M_J4_append_cf468 [vR x, vI c] t h 0 0 (QTx x (n + 1) (fun j => if j = n then c else g j) h t) := by
  obtain ⟨hx0, hx1, hx2, hx3⟩ := id hx
  obtain ⟨t1, t2, t3, t4⟩ := id hT
  refine sem_intro (by decide) rfl (Nat.le_of_ble_eq_true rfl) rfl ?_
  refine aw_aload_n dJ4_append_cf468_0 rfl ?_
  refine aw_iload_n dJ4_append_cf468_1 rfl ?_
  refine aw_callSU dJ4_append_cf468_2 ul_RJ4_50 (c_J5_appendC hx hT hn c0 c1) (by first | rfl | assumption) rfl rfl (Nat.le_of_ble_eq_true rfl) (Nat.le_of_ble_eq_true rfl) (Nat.le_of_ble_eq_true rfl) (by omega) (by omega) ?_
  intro v_ t_ h_ hq_
  obtain ⟨rfl, rfl, rfl⟩ := hq_
  refine aw_pop dJ4_append_cf468_5 rfl ?_
  refine aw_aload_n dJ4_append_cf468_6 rfl ?_
  refine aw_areturn dJ4_append_cf468_7 rfl (by first | exact Or.inl ⟨_, rfl⟩ | exact Or.inr ⟨_, rfl⟩) (Nat.le_refl _) (Nat.le_refl _) ?_
  refine ⟨rfl, rfl, ⟨?_, ?_, by omega, fun j hj => ?_⟩, fun c h1 h2 => by rw [am_up_ne h2, am_up_ne h1]⟩
  · rw [am_up_ne (by omega)]; unfold am_up; rw [if_neg (by omega)]; exact t1
  · rw [am_up_ne (by omega)]; unfold am_up; rw [if_pos ⟨rfl, rfl⟩]; omega
  · dsimp only
    unfold am_up
    by_cases y : j = n
    · subst y; rw [if_pos ⟨rfl, rfl⟩, if_pos rfl]; exact ⟨rfl, c0, c1⟩
    · rw [if_neg (by omega), if_neg (by omega), if_neg y]; exact t4 j (by omega)
theorem c_J6_stringSize {p : Int} (p0 : 0 ≤ p) (p1 : p ≤ 99) : SemE M_J6_stringSize_0f7a4 [vI p] t h (some (vI (if p < 10 then 1 else 2))) t h := by
  have tb : ¬ p < 10 → AW M_J6_stringSize_0f7a4 0 0 (EQ (some (vI (if p < 10 then 1 else 2))) t h) 16 [some (vI (-p)), some (vI 0), some (vI (10 * -10)), some (vI (1 + 1))] [] t h 0 0 := by
    intro hp
    refine aw_iload_n dJ6_stringSize_0f7a4_16 rfl ?_
    refine aw_bipush dJ6_stringSize_0f7a4_17 (by decide) (by decide) ?_
    refine aw_icmp_ge 42 dJ6_stringSize_0f7a4_19 rfl (fun c19 => ?_) (fun c19 => ?_)
    · exfalso; omega
    · refine aw_iload_n dJ6_stringSize_0f7a4_22 rfl ?_
      refine aw_iload_n dJ6_stringSize_0f7a4_23 rfl ?_
      refine aw_icmp_le 31 dJ6_stringSize_0f7a4_24 rfl (fun c24 => ?_) (fun c24 => ?_)
      · exfalso; omega
      · refine aw_iload_n dJ6_stringSize_0f7a4_27 rfl ?_
        refine aw_iload_n dJ6_stringSize_0f7a4_28 rfl ?_
        refine aw_iadd dJ6_stringSize_0f7a4_29 (by omega) (by omega) ?_
        refine aw_ireturn dJ6_stringSize_0f7a4_30 rfl (Nat.le_refl _) (Nat.le_refl _) ?_
        exact ⟨am_ri (by rw [if_neg hp]; rfl), rfl, rfl⟩
  have ta : AW M_J6_stringSize_0f7a4 0 0 (EQ (some (vI (if p < 10 then 1 else 2))) t h) 16 [some (vI (-p)), some (vI 0), some (vI (-10)), some (vI 1)] [] t h 0 0 := by
    refine aw_iload_n dJ6_stringSize_0f7a4_16 rfl ?_
    refine aw_bipush dJ6_stringSize_0f7a4_17 (by decide) (by decide) ?_
    refine aw_icmp_ge 42 dJ6_stringSize_0f7a4_19 rfl (fun c19 => ?_) (fun c19 => ?_)
    · exfalso; omega
    · refine aw_iload_n dJ6_stringSize_0f7a4_22 rfl ?_
      refine aw_iload_n dJ6_stringSize_0f7a4_23 rfl ?_
      refine aw_icmp_le 31 dJ6_stringSize_0f7a4_24 rfl (fun c24 => ?_) (fun c24 => ?_)
      · refine aw_bipush dJ6_stringSize_0f7a4_31 (by decide) (by decide) ?_
        refine aw_iload_n dJ6_stringSize_0f7a4_33 rfl ?_
        refine aw_imul dJ6_stringSize_0f7a4_34 (by omega) (by omega) ?_
        refine aw_istore_n (ls' := [_, _, _, _]) dJ6_stringSize_0f7a4_35 (by decide) rfl ?_
        refine aw_iinc (ls' := [_, _, _, _]) dJ6_stringSize_0f7a4_36 (by decide) rfl (by omega) (by omega) rfl ?_
        refine aw_goto 16 dJ6_stringSize_0f7a4_39 rfl ?_
        exact tb (by omega)
      · refine aw_iload_n dJ6_stringSize_0f7a4_27 rfl ?_
        refine aw_iload_n dJ6_stringSize_0f7a4_28 rfl ?_
        refine aw_iadd dJ6_stringSize_0f7a4_29 (by omega) (by omega) ?_
        refine aw_ireturn dJ6_stringSize_0f7a4_30 rfl (Nat.le_refl _) (Nat.le_refl _) ?_
        exact ⟨am_ri (by rw [if_pos (by omega)]; rfl), rfl, rfl⟩
  refine sem_intro (by decide) rfl (Nat.le_of_ble_eq_true rfl) rfl ?_
  refine aw_iconst dJ6_stringSize_0f7a4_0 (by decide) (by decide) ?_
  refine aw_istore_n (ls' := [_, _, _, _]) dJ6_stringSize_0f7a4_1 (by decide) rfl ?_
  refine aw_iload_n dJ6_stringSize_0f7a4_2 rfl ?_
  refine aw_if_lt 11 dJ6_stringSize_0f7a4_3 rfl (fun c3 => ?_) (fun c3 => ?_)
  · exfalso; omega
  · refine aw_iconst dJ6_stringSize_0f7a4_6 (by decide) (by decide) ?_
    refine aw_istore_n (ls' := [_, _, _, _]) dJ6_stringSize_0f7a4_7 (by decide) rfl ?_
    refine aw_iload_n dJ6_stringSize_0f7a4_8 rfl ?_
    refine aw_ineg dJ6_stringSize_0f7a4_9 (by omega) (by omega) ?_
    refine aw_istore_n (ls' := [_, _, _, _]) dJ6_stringSize_0f7a4_10 (by decide) rfl ?_
    refine aw_bipush dJ6_stringSize_0f7a4_11 (by decide) (by decide) ?_
    refine aw_istore_n (ls' := [_, _, _, _]) dJ6_stringSize_0f7a4_13 (by decide) rfl ?_
    refine aw_iconst dJ6_stringSize_0f7a4_14 (by decide) (by decide) ?_
    refine aw_istore_n (ls' := [_, _, _, _]) dJ6_stringSize_0f7a4_15 (by decide) rfl ?_
    exact ta
def gcM (h : Mem) (y : Nat) (i p : Int) : Mem := if p < 10 then am_up h y (i - 1) (48 + p % 10) else am_up (am_up h y (i - 1) (48 + p % 10)) y (i - 2) (48 + p / 10)
theorem c_J6_getChars {p i : Int} {y : Nat} (hd : DG h) (s2 : t.2.1 1000002 = (21, 100)) (s3 : t.2.1 1000003 = (21, 100)) (hy : t.2.1 y = (21, 16)) (hy2 : y < 1000000) (p0 : 0 ≤ p) (p1 : p ≤ 99) (i0 : 2 ≤ i ∨ (1 ≤ i ∧ p < 10)) (i1 : i ≤ 16) : SemE M_J6_getChars_ba4f3 [vI p, vI i, vR y] t h (some (vI (if p < 10 then i - 1 else i - 2))) t (gcM h y i p) := by
  obtain ⟨d1, d2⟩ := hd p p0 (by omega)
  have b1 := bm_s (c := 48 + p % 10) (by omega) (by omega)
  have b2 := bm_s (c := 48 + p / 10) (by omega) (by omega)
  have e1 : h 1000002 (- -p) = 48 + p % 10 := by rw [Int.neg_neg]; exact d1
  have e2 : ∀ a v, am_up h y a v 1000003 (- -p) = 48 + p / 10 := fun a v => by rw [am_up_ne (by omega), Int.neg_neg]; exact d2
  unfold gcM
  have t22 : AW M_J6_getChars_ba4f3 0 0 (EQ (some (vI (if p < 10 then i - 1 else i - 2))) t (if p < 10 then am_up h y (i - 1) (48 + p % 10) else am_up (am_up h y (i - 1) (48 + p % 10)) y (i - 2) (48 + p / 10))) 22 [some (vI (-p)), some (vI i), some (vR y), none, none, some (vI i), some (vI 0)] [] t h 0 0 := by
    refine aw_iload_n dJ6_getChars_ba4f3_22 rfl ?_
    refine aw_bipush dJ6_getChars_ba4f3_23 (by decide) (by decide) ?_
    refine aw_icmp_gt 72 dJ6_getChars_ba4f3_25 rfl (fun c25 => ?_) (fun c25 => ?_)
    · refine aw_aload_n dJ6_getChars_ba4f3_72 rfl ?_
      refine aw_iinc (ls' := [_, _, _, _, _, _, _]) dJ6_getChars_ba4f3_73 (by decide) rfl (by omega) (by omega) rfl ?_
      refine aw_iload dJ6_getChars_ba4f3_76 rfl ?_
      refine aw_gs_DigitOnes dJ6_getChars_ba4f3_78 gs_RJ6_83 ?_
      refine aw_iload_n dJ6_getChars_ba4f3_81 rfl ?_
      refine aw_ineg dJ6_getChars_ba4f3_82 (by omega) (by omega) ?_
      refine aw_baload dJ6_getChars_ba4f3_83 (by first | rfl | assumption) (by omega) (by omega) ?_
      rw [e1]
      refine aw_bastore dJ6_getChars_ba4f3_84 (by first | rfl | assumption) (by omega) (by omega) (by omega) ?_
      rw [b1, show i + -1 = i - 1 by omega]
      refine aw_iload_n dJ6_getChars_ba4f3_85 rfl ?_
      refine aw_bipush dJ6_getChars_ba4f3_86 (by decide) (by decide) ?_
      refine aw_icmp_ge 104 dJ6_getChars_ba4f3_88 rfl (fun c88 => ?_) (fun c88 => ?_)
      · try rw [b2, show i - 1 + -1 = i - 2 by omega]
        refine aw_iload dJ6_getChars_ba4f3_104 rfl ?_
        refine aw_if_eq 118 dJ6_getChars_ba4f3_106 rfl (fun c106 => ?_) (fun c106 => ?_)
        · refine aw_iload dJ6_getChars_ba4f3_118 rfl ?_
          refine aw_ireturn dJ6_getChars_ba4f3_120 rfl (Nat.le_refl _) (Nat.le_refl _) ?_
          first | (rw [if_pos (show p < 10 by omega), if_pos (show p < 10 by omega)]; exact ⟨am_ri (by omega), rfl, rfl⟩) | (rw [if_neg (show ¬ p < 10 by omega), if_neg (show ¬ p < 10 by omega)]; exact ⟨am_ri (by omega), rfl, rfl⟩)
        · exfalso; omega
      · refine aw_aload_n dJ6_getChars_ba4f3_91 rfl ?_
        refine aw_iinc (ls' := [_, _, _, _, _, _, _]) dJ6_getChars_ba4f3_92 (by decide) rfl (by omega) (by omega) rfl ?_
        refine aw_iload dJ6_getChars_ba4f3_95 rfl ?_
        refine aw_gs_DigitTens dJ6_getChars_ba4f3_97 gs_RJ6_87 ?_
        refine aw_iload_n dJ6_getChars_ba4f3_100 rfl ?_
        refine aw_ineg dJ6_getChars_ba4f3_101 (by omega) (by omega) ?_
        refine aw_baload dJ6_getChars_ba4f3_102 (by first | rfl | assumption) (by omega) (by omega) ?_
        rw [e2]
        refine aw_bastore dJ6_getChars_ba4f3_103 (by first | rfl | assumption) (by omega) (by omega) (by omega) ?_
        try rw [b2, show i - 1 + -1 = i - 2 by omega]
        refine aw_iload dJ6_getChars_ba4f3_104 rfl ?_
        refine aw_if_eq 118 dJ6_getChars_ba4f3_106 rfl (fun c106 => ?_) (fun c106 => ?_)
        · refine aw_iload dJ6_getChars_ba4f3_118 rfl ?_
          refine aw_ireturn dJ6_getChars_ba4f3_120 rfl (Nat.le_refl _) (Nat.le_refl _) ?_
          first | (rw [if_pos (show p < 10 by omega), if_pos (show p < 10 by omega)]; exact ⟨am_ri (by omega), rfl, rfl⟩) | (rw [if_neg (show ¬ p < 10 by omega), if_neg (show ¬ p < 10 by omega)]; exact ⟨am_ri (by omega), rfl, rfl⟩)
        · exfalso; omega
    · exfalso; omega
  refine sem_intro (by decide) rfl (Nat.le_of_ble_eq_true rfl) rfl ?_
  refine aw_iload_n dJ6_getChars_ba4f3_0 rfl ?_
  refine aw_istore (ls' := [_, _, _, _, _, _, _]) dJ6_getChars_ba4f3_1 (by decide) rfl ?_
  refine aw_iload_n dJ6_getChars_ba4f3_3 rfl ?_
  refine aw_if_ge 11 dJ6_getChars_ba4f3_4 rfl (fun c4 => ?_) (fun c4 => ?_)
  · refine aw_iconst dJ6_getChars_ba4f3_11 (by decide) (by decide) ?_
    refine aw_istore (ls' := [_, _, _, _, _, _, _]) dJ6_getChars_ba4f3_12 (by decide) rfl ?_
    refine aw_iload dJ6_getChars_ba4f3_14 rfl ?_
    refine aw_if_ne 22 dJ6_getChars_ba4f3_16 rfl (fun c16 => ?_) (fun c16 => ?_)
    · exfalso; omega
    · refine aw_iload_n dJ6_getChars_ba4f3_19 rfl ?_
      refine aw_ineg dJ6_getChars_ba4f3_20 (by omega) (by omega) ?_
      refine aw_istore_n (ls' := [_, _, _, _, _, _, _]) dJ6_getChars_ba4f3_21 (by decide) rfl ?_
      exact t22
  · exfalso; omega
theorem c_J5_appendI {p : Int} (hx : IsTx t x) (hd : DG h) (s2 : t.2.1 1000002 = (21, 100)) (s3 : t.2.1 1000003 = (21, 100)) (hT : TXh h x 0 g) (p0 : 0 ≤ p) (p1 : p ≤ 99) : SemE M_J5_append_c97b9 [vR x, vI p] t h (some (vR x)) t (am_up (gcM h (x + 1) (if p < 10 then 1 else 2) p) x 3 (if p < 10 then 1 else 2)) := by
  obtain ⟨hx0, hx1, hx2, hx3⟩ := id hx
  obtain ⟨t1, t2, t3, t4⟩ := hT
  have t2' : h x 3 = 0 := t2
  have pb : (p < 10 ∧ (if p < 10 then (1 : Int) else 2) = 1) ∨ (¬ p < 10 ∧ (if p < 10 then (1 : Int) else 2) = 2) := by
    by_cases y : p < 10
    · exact Or.inl ⟨y, if_pos y⟩
    · exact Or.inr ⟨y, if_neg y⟩
  have z0 : (0 : Int) + (if p < 10 then 1 else 2) = if p < 10 then 1 else 2 := by omega
  refine sem_intro (by decide) rfl (Nat.le_of_ble_eq_true rfl) rfl ?_
  refine aw_aload_n dJ5_append_c97b9_0 rfl ?_
  refine aw_getI dJ5_append_c97b9_1 fx_RJ5_79 (by first | rfl | assumption) ?_
  rw [t2']
  refine aw_istore_n (ls' := [_, _, _, _]) dJ5_append_c97b9_4 (by decide) rfl ?_
  refine aw_iload_n dJ5_append_c97b9_5 rfl ?_
  refine aw_iload_n dJ5_append_c97b9_6 rfl ?_
  refine aw_s1i dJ5_append_c97b9_7 sl_RJ5_245 (Nat.le_of_ble_eq_true rfl) (Nat.le_of_ble_eq_true rfl) (Nat.le_of_ble_eq_true rfl) (Nat.le_refl _) (Nat.le_refl _) (c_J6_stringSize p0 p1) ?_
  refine aw_iadd dJ5_append_c97b9_10 (by omega) (by omega) ?_
  rw [z0]
  refine aw_istore_n (ls' := [_, _, _, _]) dJ5_append_c97b9_11 (by decide) rfl ?_
  refine aw_aload_n dJ5_append_c97b9_12 rfl ?_
  refine aw_iload_n dJ5_append_c97b9_13 rfl ?_
  refine aw_callU dJ5_append_c97b9_14 uv_RJ5_100 (c_J5_ensure hx t1 (by omega) (by omega)) (by first | rfl | assumption) rfl rfl (Nat.le_of_ble_eq_true rfl) (Nat.le_of_ble_eq_true rfl) (Nat.le_of_ble_eq_true rfl) (by omega) (by omega) ?_
  intro v_ t_ h_ hq_
  obtain ⟨rfl, rfl, rfl⟩ := hq_
  refine aw_aload_n dJ5_append_c97b9_17 rfl ?_
  refine aw_callU dJ5_append_c97b9_18 uv_RJ5_83 (c_J5_isLatin1 hx t1) (by first | rfl | assumption) rfl rfl (Nat.le_of_ble_eq_true rfl) (Nat.le_of_ble_eq_true rfl) (Nat.le_of_ble_eq_true rfl) (by omega) (by omega) ?_
  intro v_ t_ h_ hq_
  obtain ⟨rfl, rfl, rfl⟩ := hq_
  refine aw_if_eq 37 dJ5_append_c97b9_21 rfl (fun c21 => ?_) (fun c21 => ?_)
  · exfalso; omega
  · refine aw_iload_n dJ5_append_c97b9_24 rfl ?_
    refine aw_iload_n dJ5_append_c97b9_25 rfl ?_
    refine aw_aload_n dJ5_append_c97b9_26 rfl ?_
    refine aw_getR1 dJ5_append_c97b9_27 fx_RJ5_15 (by first | rfl | assumption) (by first | rfl | assumption) ?_
    refine aw_s3i dJ5_append_c97b9_30 sl_RJ5_248 (Nat.le_of_ble_eq_true rfl) (Nat.le_of_ble_eq_true rfl) (Nat.le_of_ble_eq_true rfl) (Nat.le_refl _) (Nat.le_refl _) (c_J6_getChars hd s2 s3 hx1 (by omega) p0 p1 (by omega) (by omega)) ?_
    refine aw_pop dJ5_append_c97b9_33 rfl ?_
    refine aw_goto 48 dJ5_append_c97b9_34 rfl ?_
    refine aw_aload_n dJ5_append_c97b9_48 rfl ?_
    refine aw_iload_n dJ5_append_c97b9_49 rfl ?_
    refine aw_putI dJ5_append_c97b9_50 fp_RJ5_79 (by first | rfl | assumption) ?_
    refine aw_aload_n dJ5_append_c97b9_53 rfl ?_
    refine aw_areturn dJ5_append_c97b9_54 rfl (by first | exact Or.inl ⟨_, rfl⟩ | exact Or.inr ⟨_, rfl⟩) (Nat.le_refl _) (Nat.le_refl _) ?_
    exact ⟨rfl, rfl, rfl⟩
def dgs (p : Int) : Nat → Int := fun j => if 9 < p ∧ j = 0 then 48 + p / 10 else 48 + p % 10
def ndg (p : Int) : Nat := if p < 10 then 1 else 2
theorem c_J4_appendI {p : Int} (hx : IsTx t x) (hd : DG h) (s2 : t.2.1 1000002 = (21, 100)) (s3 : t.2.1 1000003 = (21, 100)) (hT : TXh h x 0 g) (p0 : 0 ≤ p) (p1 : p ≤ 99) : Sem M_J4_append_bf812 [vR x, vI p] t h 0 0 (QTx x (ndg p) (dgs p) h t) := by
  obtain ⟨hx0, hx1, hx2, hx3⟩ := id hx
  obtain ⟨t1, t2, t3, t4⟩ := id hT
  refine sem_intro (by decide) rfl (Nat.le_of_ble_eq_true rfl) rfl ?_
  refine aw_aload_n dJ4_append_bf812_0 rfl ?_
  refine aw_iload_n dJ4_append_bf812_1 rfl ?_
  refine aw_callSU dJ4_append_bf812_2 ul_RJ4_53 (c_J5_appendI hx hd s2 s3 hT p0 p1) (by first | rfl | assumption) rfl rfl (Nat.le_of_ble_eq_true rfl) (Nat.le_of_ble_eq_true rfl) (Nat.le_of_ble_eq_true rfl) (by omega) (by omega) ?_
  intro v_ t_ h_ hq_
  obtain ⟨rfl, rfl, rfl⟩ := hq_
  refine aw_pop dJ4_append_bf812_5 rfl ?_
  refine aw_aload_n dJ4_append_bf812_6 rfl ?_
  refine aw_areturn dJ4_append_bf812_7 rfl (by first | exact Or.inl ⟨_, rfl⟩ | exact Or.inr ⟨_, rfl⟩) (Nat.le_refl _) (Nat.le_refl _) ?_
  refine ⟨rfl, rfl, ?_, fun c h1 h2 => ?_⟩
  · unfold gcM ndg dgs
    by_cases y : p < 10
    · rw [if_pos y, if_pos y, if_pos y]
      refine ⟨?_, by unfold am_up; rw [if_pos ⟨rfl, rfl⟩]; rfl, by omega, fun j hj => ?_⟩
      · unfold am_up; rw [if_neg (by omega), if_neg (by omega)]; exact t1
      · have hj0 : j = 0 := by omega
        subst hj0
        dsimp only
        rw [am_up_ne (by omega), if_neg (by omega)]
        unfold am_up
        rw [if_pos ⟨rfl, rfl⟩]
        exact ⟨rfl, by omega, by omega⟩
    · rw [if_neg y, if_neg y, if_neg y]
      refine ⟨?_, by unfold am_up; rw [if_pos ⟨rfl, rfl⟩]; rfl, by omega, fun j hj => ?_⟩
      · unfold am_up; rw [if_neg (by omega), if_neg (by omega), if_neg (by omega)]; exact t1
      · dsimp only
        rw [am_up_ne (by omega)]
        rcases (show j = 0 ∨ j = 1 by omega) with rfl | rfl
        · rw [if_pos ⟨by omega, rfl⟩]
          unfold am_up
          rw [if_pos ⟨rfl, rfl⟩]
          exact ⟨rfl, by omega, by omega⟩
        · rw [if_neg (by omega)]
          unfold am_up
          rw [if_neg (by omega), if_pos ⟨rfl, rfl⟩]
          exact ⟨rfl, by omega, by omega⟩
  · unfold gcM
    rw [am_up_ne h1]
    split
    · rw [am_up_ne h2]
    · rw [am_up_ne h2, am_up_ne h2]
theorem c_J5_length (hx : IsTx t x) : SemE M_J5_length_8abf5 [vR x] t h (some (vI (h x 3))) t h := by
  have hx0 := hx.1
  refine sem_intro (by decide) rfl (Nat.le_of_ble_eq_true rfl) rfl ?_
  refine aw_aload_n dJ5_length_8abf5_0 rfl ?_
  refine aw_getI dJ5_length_8abf5_1 fx_RJ5_79 (by first | rfl | assumption) ?_
  refine aw_ireturn dJ5_length_8abf5_4 rfl (Nat.le_refl _) (Nat.le_refl _) ?_
  exact ⟨rfl, rfl, rfl⟩
theorem c_J4_length (hx : IsTx t x) : SemE M_J4_length_8abf5 [vR x] t h (some (vI (h x 3))) t h := by
  have hx0 := hx.1
  refine sem_intro (by decide) rfl (Nat.le_of_ble_eq_true rfl) rfl ?_
  refine aw_aload_n dJ4_length_8abf5_0 rfl ?_
  refine aw_callSU dJ4_length_8abf5_1 ul_RJ4_343 (c_J5_length hx) (by first | rfl | assumption) rfl rfl (Nat.le_of_ble_eq_true rfl) (Nat.le_of_ble_eq_true rfl) (Nat.le_of_ble_eq_true rfl) (by omega) (by omega) ?_
  intro v_ t_ h_ hq_
  obtain ⟨rfl, rfl, rfl⟩ := hq_
  refine aw_ireturn dJ4_length_8abf5_4 rfl (Nat.le_refl _) (Nat.le_refl _) ?_
  exact ⟨rfl, rfl, rfl⟩
theorem c_J3_checkIndex {i k : Int} {r : Option Nat} (h0 : 0 ≤ i) (h1 : i < k) : SemE M_J3_checkIndex_8e157 [vI i, vI k, vQ r] t h (some (vI i)) t h := by
  refine sem_intro (by decide) rfl (Nat.le_of_ble_eq_true rfl) rfl ?_
  refine aw_iload_n dJ3_checkIndex_8e157_0 rfl ?_
  refine aw_if_lt 9 dJ3_checkIndex_8e157_1 rfl (fun c1 => ?_) (fun c1 => ?_)
  · exfalso; omega
  · refine aw_iload_n dJ3_checkIndex_8e157_4 rfl ?_
    refine aw_iload_n dJ3_checkIndex_8e157_5 rfl ?_
    refine aw_icmp_lt 16 dJ3_checkIndex_8e157_6 rfl (fun c6 => ?_) (fun c6 => ?_)
    · refine aw_iload_n dJ3_checkIndex_8e157_16 rfl ?_
      refine aw_ireturn dJ3_checkIndex_8e157_17 rfl (Nat.le_refl _) (Nat.le_refl _) ?_
      exact ⟨rfl, rfl, rfl⟩
    · exfalso; omega
theorem c_J0_checkIndex {i k : Int} (h0 : 0 ≤ i) (h1 : i < k) : SemE M_J0_checkIndex_df160 [vI i, vI k] t h none t h := by
  refine sem_intro (by decide) rfl (Nat.le_of_ble_eq_true rfl) rfl ?_
  refine aw_iload_n dJ0_checkIndex_df160_0 rfl ?_
  refine aw_iload_n dJ0_checkIndex_df160_1 rfl ?_
  refine aw_gs_SIOOBE_FORMATTER dJ0_checkIndex_df160_2 gs_RJ0_1053 (fun r_ => ?_)
  refine aw_s3i dJ0_checkIndex_df160_5 sl_RJ0_1059 (Nat.le_of_ble_eq_true rfl) (Nat.le_of_ble_eq_true rfl) (Nat.le_of_ble_eq_true rfl) (Nat.le_refl _) (Nat.le_refl _) (c_J3_checkIndex h0 h1) ?_
  refine aw_pop dJ0_checkIndex_df160_8 rfl ?_
  refine aw_return dJ0_checkIndex_df160_9 rfl (Nat.le_refl _) (Nat.le_refl _) ?_
  exact ⟨rfl, rfl, rfl⟩
theorem c_J5_charAt {j : Nat} (hx : IsTx t x) (hT : TXh h x n g) (hj : j < n) : SemE M_J5_charAt_5068e [vR x, vI j] t h (some (vI (g j))) t h := by
  obtain ⟨hx0, hx1, hx2, hx3⟩ := id hx
  obtain ⟨t1, t2, t3, t4⟩ := id hT
  obtain ⟨g1, g2, g3⟩ := t4 j hj
  obtain ⟨b, hb⟩ : ∃ b : Nat, g j = (b : Int) := ⟨(g j).toNat, by omega⟩
  have ea := and255 b (by omega)
  have e16 : (Int32.ofInt 16 >>> (Int32.ofInt 0 &&& 31)).toInt = 16 := by decide
  have em : (if (16 : Int) < (n : Int) then (16 : Int) else (n : Int)) = n := if_neg (by omega)
  refine sem_intro (by decide) rfl (Nat.le_of_ble_eq_true rfl) rfl ?_
  refine aw_aload_n dJ5_charAt_5068e_0 rfl ?_
  refine aw_getI dJ5_charAt_5068e_1 fx_RJ5_22 (by first | rfl | assumption) ?_
  rw [t1]
  refine aw_istore_n (ls' := [_, _, _, _, _]) dJ5_charAt_5068e_4 (by decide) rfl ?_
  refine aw_aload_n dJ5_charAt_5068e_5 rfl ?_
  refine aw_getR1 dJ5_charAt_5068e_6 fx_RJ5_15 (by first | rfl | assumption) (by first | rfl | assumption) ?_
  refine aw_astore_n (ls' := [_, _, _, _, _]) dJ5_charAt_5068e_9 (by decide) rfl ?_
  refine aw_aload_n dJ5_charAt_5068e_10 rfl ?_
  refine aw_getI dJ5_charAt_5068e_11 fx_RJ5_79 (by first | rfl | assumption) ?_
  rw [t2]
  refine aw_aload_n dJ5_charAt_5068e_14 rfl ?_
  refine aw_blen dJ5_charAt_5068e_15 (by first | rfl | assumption) rfl (by decide) ?_
  refine aw_iload_n dJ5_charAt_5068e_16 rfl ?_
  refine aw_ishrw dJ5_charAt_5068e_17 ?_
  rw [show ((16 : Nat) : Int) = 16 from rfl, e16]
  refine aw_mmin dJ5_charAt_5068e_18 mx_RJ5_138 (by decide) (Nat.le_of_ble_eq_true rfl) (Nat.le_refl _) (Nat.le_refl _) ?_
  rw [em]
  refine aw_istore (ls' := [_, _, _, _, _]) dJ5_charAt_5068e_21 (by decide) rfl ?_
  refine aw_iload_n dJ5_charAt_5068e_23 rfl ?_
  refine aw_iload dJ5_charAt_5068e_24 rfl ?_
  refine aw_s2v dJ5_charAt_5068e_26 sl_RJ5_144 (Nat.le_of_ble_eq_true rfl) (Nat.le_of_ble_eq_true rfl) (Nat.le_of_ble_eq_true rfl) (Nat.le_refl _) (Nat.le_refl _) (c_J0_checkIndex (by omega) (by omega)) ?_
  refine aw_iload_n dJ5_charAt_5068e_29 rfl ?_
  refine aw_if_ne 42 dJ5_charAt_5068e_30 rfl (fun c30 => ?_) (fun c30 => ?_)
  · exfalso; omega
  · refine aw_aload_n dJ5_charAt_5068e_33 rfl ?_
    refine aw_iload_n dJ5_charAt_5068e_34 rfl ?_
    refine aw_baload dJ5_charAt_5068e_35 (by first | rfl | assumption) (by omega) (by omega) ?_
    rw [g1, hb]
    refine aw_sipush dJ5_charAt_5068e_36 (by decide) (by decide) ?_
    refine aw_iandw dJ5_charAt_5068e_39 ?_
    rw [ea]
    refine aw_i2c dJ5_charAt_5068e_40 (by omega) (by omega) ?_
    refine aw_creturn dJ5_charAt_5068e_41 rfl (Nat.le_refl _) (Nat.le_refl _) (by omega) (by omega) ?_
    exact ⟨rfl, rfl, rfl⟩
theorem c_J4_charAt {j : Nat} (hx : IsTx t x) (hT : TXh h x n g) (hj : j < n) : SemE M_J4_charAt_5068e [vR x, vI j] t h (some (vI (g j))) t h := by
  have hx0 := hx.1
  obtain ⟨g1, g2, g3⟩ := hT.2.2.2 j hj
  refine sem_intro (by decide) rfl (Nat.le_of_ble_eq_true rfl) rfl ?_
  refine aw_aload_n dJ4_charAt_5068e_0 rfl ?_
  refine aw_iload_n dJ4_charAt_5068e_1 rfl ?_
  refine aw_callSU dJ4_charAt_5068e_2 ul_RJ4_329 (c_J5_charAt hx hT hj) (by first | rfl | assumption) rfl rfl (Nat.le_of_ble_eq_true rfl) (Nat.le_of_ble_eq_true rfl) (Nat.le_of_ble_eq_true rfl) (by omega) (by omega) ?_
  intro v_ t_ h_ hq_
  obtain ⟨rfl, rfl, rfl⟩ := hq_
  refine aw_creturn dJ4_charAt_5068e_5 rfl (Nat.le_refl _) (Nat.le_refl _) (by omega) (by omega) ?_
  exact ⟨rfl, rfl, rfl⟩
end TXT
