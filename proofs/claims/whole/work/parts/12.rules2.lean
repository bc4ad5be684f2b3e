def am_all (lsC : Array Slot) : List (Nat × Value) := (List.range lsC.size).filterMap (fun j => match (lsC[j]? : Option Slot) with
  | some (Slot.val c) => some (j, c)
  | _ => none)
theorem am_all_mem {lsC : Array Slot} {j : Nat} {c : Value} : (j, c) ∈ am_all lsC ↔ lsC[j]? = some (.val c) := by
  unfold am_all
  rw [List.mem_filterMap]
  constructor
  · rintro ⟨i, hi, h⟩
    split at h
    · rename_i c' hc
      cases h
      exact hc
    · cases h
  · intro h
    refine ⟨j, List.mem_range.mpr (Array.getElem?_eq_some_iff.mp h).1, ?_⟩
    rw [h]
theorem LR.has {G : GX} {n : Nat} {ls : List (Option AV)} {lsC : Array Slot} (hL : LR G n ls lsC) : lv_has lsC n (am_all lsC) := ⟨hL.1, hL.2.1, fun q hq => am_all_mem.mp hq⟩
theorem cvr_cat {G : GX} {v : AV} {c : Value} (h : cvr G v c) (h2 : c.category = 2) : am_is2 (some (some v)) = true := by
  match v, h with
  | .inl (false, i), ⟨x, e, _⟩ => rw [e] at h2; exact absurd h2 (by simp [Value.category])
  | .inl (true, i), _ => rfl
  | .inr none, e => rw [show c = .null from e] at h2; exact absurd h2 (by decide)
  | .inr (some a), e => rw [show c = .ref _ from e] at h2; exact absurd h2 (by simp [Value.category])
theorem LR.st1 {G : GX} {n i : Nat} {ls : List (Option AV)} {lsC l' : Array Slot} {v : AV} {cv : Value} (hL : LR G n ls lsC) (hv : cvr G v cv)
    (h' : lv_has l' n ((i, cv) :: (am_all lsC).filter (fun q => !(q.1 == i) && !(q.1 + 1 == i && q.2.category == 2)))) : LR G n (am_st1 ls i v) l' := by
  refine ⟨h'.1, h'.2.1, fun j w hj => ?_⟩
  unfold am_st1 at hj
  by_cases e : j = i
  · subst e
    have hlt : j < ((if 0 < j ∧ am_is2 ls[j - 1]? = true then ls.set (j - 1) none else ls)).length := by
      have := (List.getElem?_eq_some_iff.mp hj).1
      rwa [List.length_set] at this
    rw [List.getElem?_set_self hlt] at hj
    cases hj
    exact ⟨cv, h'.2.2 (j, cv) List.mem_cons_self, hv⟩
  · rw [List.getElem?_set_ne (Ne.symm e)] at hj
    have hj2 : ls[j]? = some (some w) ∧ ¬ (j + 1 = i ∧ am_is2 (some (some w)) = true) := by
      split at hj
      · rename_i hc
        by_cases e2 : i - 1 = j
        · subst e2
          exfalso
          have hlt := (List.getElem?_eq_some_iff.mp hj).1
          rw [List.length_set] at hlt
          rw [List.getElem?_set_self hlt] at hj
          cases hj
        · rw [List.getElem?_set_ne e2] at hj
          exact ⟨hj, fun z => e2 (by omega)⟩
      · rename_i hc
        refine ⟨hj, fun z => hc ⟨by omega, ?_⟩⟩
        rw [show i - 1 = j by omega, hj]
        exact z.2
    obtain ⟨c, e1, e2⟩ := hL.at hj2.1
    refine ⟨c, h'.2.2 (j, c) (List.mem_cons_of_mem _ (List.mem_filter.mpr ⟨am_all_mem.mpr e1, ?_⟩)), e2⟩
    simp only [Bool.and_eq_true, Bool.not_eq_true', beq_eq_false_iff_ne, Bool.and_eq_false_iff]
    refine ⟨e, ?_⟩
    by_cases e3 : j + 1 = i
    · right
      intro e4
      exact hj2.2 ⟨e3, cvr_cat e2 e4⟩
    · left
      exact e3
theorem LR.st2 {G : GX} {n i : Nat} {ls : List (Option AV)} {lsC l' : Array Slot} {v : AV} {cv : Value} (hL : LR G n ls lsC) (hv : cvr G v cv)
    (h' : lv_has l' n ((i, cv) :: (am_all lsC).filter (fun q => !(q.1 == i) && (!(q.1 == i + 1) && !(q.1 + 1 == i && q.2.category == 2))))) : LR G n (am_st2 ls i v) l' := by
  refine ⟨h'.1, h'.2.1, fun j w hj => ?_⟩
  unfold am_st2 at hj
  by_cases e0 : j = i + 1
  · exfalso
    subst e0
    have hlt := (List.getElem?_eq_some_iff.mp hj).1
    rw [List.length_set] at hlt
    rw [List.getElem?_set_self hlt] at hj
    cases hj
  rw [List.getElem?_set_ne (Ne.symm e0)] at hj
  by_cases e : j = i
  · subst e
    have hlt : j < ((if 0 < j ∧ am_is2 ls[j - 1]? = true then ls.set (j - 1) none else ls)).length := by
      have := (List.getElem?_eq_some_iff.mp hj).1
      rwa [List.length_set] at this
    rw [List.getElem?_set_self hlt] at hj
    cases hj
    exact ⟨cv, h'.2.2 (j, cv) List.mem_cons_self, hv⟩
  · rw [List.getElem?_set_ne (Ne.symm e)] at hj
    have hj2 : ls[j]? = some (some w) ∧ ¬ (j + 1 = i ∧ am_is2 (some (some w)) = true) := by
      split at hj
      · rename_i hc
        by_cases e2 : i - 1 = j
        · subst e2
          exfalso
          have hlt := (List.getElem?_eq_some_iff.mp hj).1
          rw [List.length_set] at hlt
          rw [List.getElem?_set_self hlt] at hj
          cases hj
        · rw [List.getElem?_set_ne e2] at hj
          exact ⟨hj, fun z => e2 (by omega)⟩
      · rename_i hc
        refine ⟨hj, fun z => hc ⟨by omega, ?_⟩⟩
        rw [show i - 1 = j by omega, hj]
        exact z.2
    obtain ⟨c, e1, e2⟩ := hL.at hj2.1
    refine ⟨c, h'.2.2 (j, c) (List.mem_cons_of_mem _ (List.mem_filter.mpr ⟨am_all_mem.mpr e1, ?_⟩)), e2⟩
    simp only [Bool.and_eq_true, Bool.not_eq_true', beq_eq_false_iff_ne, Bool.and_eq_false_iff]
    refine ⟨e, e0, ?_⟩
    by_cases e3 : j + 1 = i
    · right
      intro e4
      exact hj2.2 ⟨e3, cvr_cat e2 e4⟩
    · left
      exact e3
theorem i64_div {a b : Int64} (ha : 0 ≤ a.toInt) (hb : 0 < b.toInt) : (a / b).toInt = a.toInt / b.toInt := by
  rw [Int64.toInt_div_of_ne_right _ _ (fun e => by rw [e] at hb; exact absurd hb (by decide)), Int.tdiv_eq_ediv_of_nonneg ha]
theorem i64_lo (x : Int64) : -9223372036854775808 ≤ x.toInt := by have := Int64.le_toInt x; simpa using this
theorem i64_hi (x : Int64) : x.toInt ≤ 9223372036854775807 := by
  have h1 := Int64.toInt_lt x
  have h2 : x.toInt < 9223372036854775808 := by simpa using h1
  omega
theorem i64_ne0 {b : Int64} (hb : 0 < b.toInt) : ¬ b = 0 := fun e => by rw [e] at hb; exact absurd hb (by decide)
theorem i64_rem {a b : Int64} (ha : 0 ≤ a.toInt) (hb : 0 < b.toInt) : (a - a / b * b).toInt = a.toInt % b.toInt := by
  rw [Int64.toInt_sub, Int64.toInt_mul, i64_div ha hb]
  have h1 := i64_lo a
  have h2 := i64_hi a
  have h3 : a.toInt / b.toInt * b.toInt ≤ a.toInt := Int.ediv_mul_le _ (by omega)
  have h4 : 0 ≤ a.toInt / b.toInt * b.toInt := Int.mul_nonneg (Int.ediv_nonneg ha (by omega)) (by omega)
  rw [Int.bmod_eq_of_le (n := a.toInt / b.toInt * b.toInt) (by omega) (by omega)]
  have h5 : a.toInt % b.toInt = a.toInt - a.toInt / b.toInt * b.toInt := by
    have := Int.mul_ediv_add_emod a.toInt b.toInt
    rw [Int.mul_comm] at this
    omega
  rw [h5]
  exact Int.bmod_eq_of_le (by omega) (by omega)
section AMS
variable {M : MI} {mc ms : Nat} {Q : Option AV → Tp → Mem → Prop} {pc : Nat} {ls ls' : List (Option AV)} {st : List AV} {t : Tp} {h : Mem} {ck sk : Nat}
theorem aw_istore {i : Nat} {x : Int} (hd : decode M.2.1 pc = .ok (.istore i, 2)) (hn : i < M.2.2.1) (hl : am_st1 ls i (vI x) = ls') (k : AW M mc ms Q (pc + 2) ls' st t h ck sk) : AW M mc ms Q pc ls (vI x :: st) t h ck sk := by
  intro G p l e R s m args below meth c H locs lsC stC C hR hL hS hq
  obtain ⟨a, r, rfl, rfl, hS1⟩ := SR.i hS
  exact lv_istore C.1 C.2.1 hd hL.has hn rfl (fun l2 h2 => k G p l e R s m args below meth c H locs l2 _ C hR (hl ▸ hL.st1 ⟨_, rfl, rfl⟩ h2) hS1 hq)
theorem aw_istore_n {f : Fin 4} {x : Int} (hd : decode M.2.1 pc = .ok (.istore_n f, 1)) (hn : (f : Nat) < M.2.2.1) (hl : am_st1 ls (f : Nat) (vI x) = ls') (k : AW M mc ms Q (pc + 1) ls' st t h ck sk) : AW M mc ms Q pc ls (vI x :: st) t h ck sk := by
  intro G p l e R s m args below meth c H locs lsC stC C hR hL hS hq
  obtain ⟨a, r, rfl, rfl, hS1⟩ := SR.i hS
  exact lv_istore_n C.1 C.2.1 hd rfl hL.has hn rfl (fun l2 h2 => k G p l e R s m args below meth c H locs l2 _ C hR (hl ▸ hL.st1 ⟨_, rfl, rfl⟩ h2) hS1 hq)
theorem aw_astore {i : Nat} {x : Nat} (hd : decode M.2.1 pc = .ok (.astore i, 2)) (hn : i < M.2.2.1) (hl : am_st1 ls i (vR x) = ls') (k : AW M mc ms Q (pc + 2) ls' st t h ck sk) : AW M mc ms Q pc ls (vR x :: st) t h ck sk := by
  intro G p l e R s m args below meth c H locs lsC stC C hR hL hS hq
  obtain ⟨r, rfl, hS1⟩ := SR.r hS
  exact lv_astore C.1 C.2.1 hd hL.has hn rfl (fun l2 h2 => k G p l e R s m args below meth c H locs l2 _ C hR (hl ▸ hL.st1 rfl h2) hS1 hq)
theorem aw_astore_n {f : Fin 4} {x : Nat} (hd : decode M.2.1 pc = .ok (.astore_n f, 1)) (hn : (f : Nat) < M.2.2.1) (hl : am_st1 ls (f : Nat) (vR x) = ls') (k : AW M mc ms Q (pc + 1) ls' st t h ck sk) : AW M mc ms Q pc ls (vR x :: st) t h ck sk := by
  intro G p l e R s m args below meth c H locs lsC stC C hR hL hS hq
  obtain ⟨r, rfl, hS1⟩ := SR.r hS
  exact lv_astore_n C.1 C.2.1 hd rfl hL.has hn rfl (fun l2 h2 => k G p l e R s m args below meth c H locs l2 _ C hR (hl ▸ hL.st1 rfl h2) hS1 hq)
theorem aw_lstore {i : Nat} {x : Int} (hd : decode M.2.1 pc = .ok (.lstore i, 2)) (hn : i + 1 < M.2.2.1) (hl : am_st2 ls i (vL x) = ls') (k : AW M mc ms Q (pc + 2) ls' st t h ck sk) : AW M mc ms Q pc ls (vL x :: st) t h ck sk := by
  intro G p l e R s m args below meth c H locs lsC stC C hR hL hS hq
  obtain ⟨a, r, rfl, rfl, hS1⟩ := SR.l hS
  exact lv_lstore C.1 C.2.1 hd hL.has hn rfl (fun l2 h2 => k G p l e R s m args below meth c H locs l2 _ C hR (hl ▸ hL.st2 ⟨_, rfl, rfl⟩ h2) hS1 hq)
theorem aw_lstore_n {f : Fin 4} {x : Int} (hd : decode M.2.1 pc = .ok (.lstore_n f, 1)) (hn : (f : Nat) + 1 < M.2.2.1) (hl : am_st2 ls (f : Nat) (vL x) = ls') (k : AW M mc ms Q (pc + 1) ls' st t h ck sk) : AW M mc ms Q pc ls (vL x :: st) t h ck sk := by
  intro G p l e R s m args below meth c H locs lsC stC C hR hL hS hq
  obtain ⟨a, r, rfl, rfl, hS1⟩ := SR.l hS
  exact lv_lstore_n C.1 C.2.1 hd rfl hL.has hn rfl (fun l2 h2 => k G p l e R s m args below meth c H locs l2 _ C hR (hl ▸ hL.st2 ⟨_, rfl, rfl⟩ h2) hS1 hq)
theorem aw_iincw {i : Nat} {n x : Int} (hd : decode M.2.1 pc = .ok (.iinc i n, 3)) (hn : i < M.2.2.1) (hx : ls[i]? = some (some (vI x))) (hl : am_st1 ls i (vI (wr (x + n))) = ls') (k : AW M mc ms Q (pc + 3) ls' st t h ck sk) : AW M mc ms Q pc ls st t h ck sk := by
  intro G p l e R s m args below meth c H locs lsC stC C hR hL hS hq
  obtain ⟨_, e1, y, rfl, rfl⟩ := hL.at hx
  obtain ⟨kk, hk⟩ := List.getElem?_of_mem (am_all_mem.mpr e1)
  refine lv_iinc C.1 C.2.1 hd hL.has hk rfl hn rfl (fun l2 h2 => k G p l e R s m args below meth c H locs l2 _ C hR (hl ▸ hL.st1 ⟨_, rfl, ?_⟩ h2) hS hq)
  rw [Int32.toInt_add, Int32.toInt_ofInt]
  unfold wr
  rw [Int32.toInt_ofInt]
  exact Int.add_bmod_bmod
theorem aw_iinc {i : Nat} {n x : Int} (hd : decode M.2.1 pc = .ok (.iinc i n, 3)) (hn : i < M.2.2.1) (hx : ls[i]? = some (some (vI x))) (h1 : -2147483648 ≤ x + n) (h2 : x + n ≤ 2147483647) (hl : am_st1 ls i (vI (x + n)) = ls') (k : AW M mc ms Q (pc + 3) ls' st t h ck sk) : AW M mc ms Q pc ls st t h ck sk :=
  aw_iincw hd hn hx (by rw [wr_of h1 h2]; exact hl) k
theorem cvr_c1 {G : GX} {v : AV} {c : Value} (h : cvr G v c) (h2 : am_is2 (some (some v)) = false) : c.category = 1 := by
  match v, h with
  | .inl (false, i), ⟨x, e, _⟩ => rw [e]; rfl
  | .inl (true, i), _ => exact absurd h2 (by simp [am_is2])
  | .inr none, e => rw [show c = .null from e]; rfl
  | .inr (some a), e => rw [show c = .ref _ from e]; rfl
theorem aw_dup {v : AV} (hd : decode M.2.1 pc = .ok (.dup, 1)) (h2 : am_is2 (some (some v)) = false) (k : AW M mc ms Q (pc + 1) ls (v :: v :: st) t h ck sk) : AW M mc ms Q pc ls (v :: st) t h ck sk := by
  intro G p l e R s m args below meth c H locs lsC stC C hR hL hS hq
  obtain ⟨a, r, rfl, hv, hS1⟩ := SR.cons hS
  exact lv_dup C.1 C.2.1 hd (cvr_c1 hv h2) (k G p l e R s m args below meth c H locs lsC _ C hR hL ⟨hv, hv, hS1⟩ hq)
theorem aw_dup_x1 {v w : AV} (hd : decode M.2.1 pc = .ok (.dup_x1, 1)) (h2 : am_is2 (some (some v)) = false) (h3 : am_is2 (some (some w)) = false) (k : AW M mc ms Q (pc + 1) ls (v :: w :: v :: st) t h ck sk) : AW M mc ms Q pc ls (v :: w :: st) t h ck sk := by
  intro G p l e R s m args below meth c H locs lsC stC C hR hL hS hq
  obtain ⟨a, r, rfl, hv, hS1⟩ := SR.cons hS
  obtain ⟨b, r, rfl, hw, hS2⟩ := SR.cons hS1
  exact lv_dup_x1 C.1 C.2.1 hd (cvr_c1 hv h2) (cvr_c1 hw h3) (k G p l e R s m args below meth c H locs lsC _ C hR hL ⟨hv, hw, hv, hS2⟩ hq)
theorem aw_dup2 {v w : AV} (hd : decode M.2.1 pc = .ok (.dup2, 1)) (h2 : am_is2 (some (some v)) = false) (h3 : am_is2 (some (some w)) = false) (k : AW M mc ms Q (pc + 1) ls (v :: w :: v :: w :: st) t h ck sk) : AW M mc ms Q pc ls (v :: w :: st) t h ck sk := by
  intro G p l e R s m args below meth c H locs lsC stC C hR hL hS hq
  obtain ⟨a, r, rfl, hv, hS1⟩ := SR.cons hS
  obtain ⟨b, r, rfl, hw, hS2⟩ := SR.cons hS1
  exact lv_dup2_11 C.1 C.2.1 hd (cvr_c1 hv h2) (cvr_c1 hw h3) (k G p l e R s m args below meth c H locs lsC _ C hR hL ⟨hv, hw, hv, hw, hS2⟩ hq)
theorem aw_pop {v : AV} (hd : decode M.2.1 pc = .ok (.pop, 1)) (h2 : am_is2 (some (some v)) = false) (k : AW M mc ms Q (pc + 1) ls st t h ck sk) : AW M mc ms Q pc ls (v :: st) t h ck sk := by
  intro G p l e R s m args below meth c H locs lsC stC C hR hL hS hq
  obtain ⟨a, r, rfl, hv, hS1⟩ := SR.cons hS
  exact lv_pop C.1 C.2.1 hd (cvr_c1 hv h2) (k G p l e R s m args below meth c H locs lsC _ C hR hL hS1 hq)
theorem aw_i2l {x : Int} (hd : decode M.2.1 pc = .ok (.i2l, 1)) (k : AW M mc ms Q (pc + 1) ls (vL x :: st) t h ck sk) : AW M mc ms Q pc ls (vI x :: st) t h ck sk := by
  intro G p l e R s m args below meth c H locs lsC stC C hR hL hS hq
  obtain ⟨a, r, rfl, rfl, hS1⟩ := SR.i hS
  exact lv_i2l C.1 C.2.1 hd rfl (k G p l e R s m args below meth c H locs lsC _ C hR hL ⟨⟨_, rfl, Int32.toInt_toInt64 a⟩, hS1⟩ hq)
theorem aw_l2i {x : Int} (hd : decode M.2.1 pc = .ok (.l2i, 1)) (h1 : -2147483648 ≤ x) (h2 : x ≤ 2147483647) (k : AW M mc ms Q (pc + 1) ls (vI x :: st) t h ck sk) : AW M mc ms Q pc ls (vL x :: st) t h ck sk := by
  intro G p l e R s m args below meth c H locs lsC stC C hR hL hS hq
  obtain ⟨a, r, rfl, rfl, hS1⟩ := SR.l hS
  exact lv_l2i C.1 C.2.1 hd rfl (k G p l e R s m args below meth c H locs lsC _ C hR hL ⟨⟨_, rfl, by rw [Int64.toInt_toInt32]; exact Int.bmod_eq_of_le (by omega) (by omega)⟩, hS1⟩ hq)
theorem aw_i2b {x : Int} (hd : decode M.2.1 pc = .ok (.i2b, 1)) (k : AW M mc ms Q (pc + 1) ls (vI (x.bmod 256) :: st) t h ck sk) : AW M mc ms Q pc ls (vI x :: st) t h ck sk := by
  intro G p l e R s m args below meth c H locs lsC stC C hR hL hS hq
  obtain ⟨a, r, rfl, rfl, hS1⟩ := SR.i hS
  exact lv_i2b C.1 C.2.1 hd rfl (k G p l e R s m args below meth c H locs lsC _ C hR hL ⟨⟨_, rfl, by rw [Int8.toInt_toInt32, Int32.toInt_toInt8]⟩, hS1⟩ hq)
theorem aw_i2s {x : Int} (hd : decode M.2.1 pc = .ok (.i2s, 1)) (k : AW M mc ms Q (pc + 1) ls (vI (x.bmod 65536) :: st) t h ck sk) : AW M mc ms Q pc ls (vI x :: st) t h ck sk := by
  intro G p l e R s m args below meth c H locs lsC stC C hR hL hS hq
  obtain ⟨a, r, rfl, rfl, hS1⟩ := SR.i hS
  exact lv_i2s C.1 C.2.1 hd rfl (k G p l e R s m args below meth c H locs lsC _ C hR hL ⟨⟨_, rfl, by rw [Int16.toInt_toInt32, Int32.toInt_toInt16]⟩, hS1⟩ hq)
theorem aw_ladd {x y : Int} (hd : decode M.2.1 pc = .ok (.ladd, 1)) (h1 : -9223372036854775808 ≤ x + y) (h2 : x + y ≤ 9223372036854775807) (k : AW M mc ms Q (pc + 1) ls (vL (x + y) :: st) t h ck sk) : AW M mc ms Q pc ls (vL y :: vL x :: st) t h ck sk := by
  intro G p l e R s m args below meth c H locs lsC stC C hR hL hS hq
  obtain ⟨b, r1, rfl, rfl, hS1⟩ := SR.l hS
  obtain ⟨a, r2, rfl, rfl, hS2⟩ := SR.l hS1
  exact lv_ladd C.1 C.2.1 hd (k G p l e R s m args below meth c H locs lsC _ C hR hL ⟨⟨_, rfl, by rw [Int64.toInt_add]; exact Int.bmod_eq_of_le (by omega) (by omega)⟩, hS2⟩ hq)
theorem aw_lmul {x y : Int} (hd : decode M.2.1 pc = .ok (.lmul, 1)) (h1 : -9223372036854775808 ≤ x * y) (h2 : x * y ≤ 9223372036854775807) (k : AW M mc ms Q (pc + 1) ls (vL (x * y) :: st) t h ck sk) : AW M mc ms Q pc ls (vL y :: vL x :: st) t h ck sk := by
  intro G p l e R s m args below meth c H locs lsC stC C hR hL hS hq
  obtain ⟨b, r1, rfl, rfl, hS1⟩ := SR.l hS
  obtain ⟨a, r2, rfl, rfl, hS2⟩ := SR.l hS1
  exact lv_lmul C.1 C.2.1 hd (k G p l e R s m args below meth c H locs lsC _ C hR hL ⟨⟨_, rfl, by rw [Int64.toInt_mul]; exact Int.bmod_eq_of_le (by omega) (by omega)⟩, hS2⟩ hq)
theorem aw_ldiv {x y : Int} (hd : decode M.2.1 pc = .ok (.ldiv, 1)) (hx : 0 ≤ x) (hy : 0 < y) (k : AW M mc ms Q (pc + 1) ls (vL (x / y) :: st) t h ck sk) : AW M mc ms Q pc ls (vL y :: vL x :: st) t h ck sk := by
  intro G p l e R s m args below meth c H locs lsC stC C hR hL hS hq
  obtain ⟨b, r1, rfl, rfl, hS1⟩ := SR.l hS
  obtain ⟨a, r2, rfl, rfl, hS2⟩ := SR.l hS1
  exact lv_ldiv C.1 C.2.1 hd (i64_ne0 hy) (k G p l e R s m args below meth c H locs lsC _ C hR hL ⟨⟨_, rfl, i64_div hx hy⟩, hS2⟩ hq)
theorem aw_lrem {x y : Int} (hd : decode M.2.1 pc = .ok (.lrem, 1)) (hx : 0 ≤ x) (hy : 0 < y) (k : AW M mc ms Q (pc + 1) ls (vL (x % y) :: st) t h ck sk) : AW M mc ms Q pc ls (vL y :: vL x :: st) t h ck sk := by
  intro G p l e R s m args below meth c H locs lsC stC C hR hL hS hq
  obtain ⟨b, r1, rfl, rfl, hS1⟩ := SR.l hS
  obtain ⟨a, r2, rfl, rfl, hS2⟩ := SR.l hS1
  exact lv_lrem C.1 C.2.1 hd (i64_ne0 hy) (k G p l e R s m args below meth c H locs lsC _ C hR hL ⟨⟨_, rfl, i64_rem hx hy⟩, hS2⟩ hq)
theorem aw_lcmp {x y : Int} (hd : decode M.2.1 pc = .ok (.lcmp, 1)) (k : AW M mc ms Q (pc + 1) ls (vI (if y < x then 1 else if x = y then 0 else -1) :: st) t h ck sk) : AW M mc ms Q pc ls (vL y :: vL x :: st) t h ck sk := by
  intro G p l e R s m args below meth c H locs lsC stC C hR hL hS hq
  obtain ⟨b, r1, rfl, rfl, hS1⟩ := SR.l hS
  obtain ⟨a, r2, rfl, rfl, hS2⟩ := SR.l hS1
  refine W.lcmp C.1 C.2.1 hd (k G p l e R s m args below meth c H locs lsC _ C hR hL ⟨⟨_, rfl, ?_⟩, hS2⟩ hq)
  unfold lg_cmp
  by_cases h1 : b.toInt < a.toInt
  · rw [if_pos (show a > b from Int64.lt_iff_toInt_lt.mpr h1), if_pos h1]; rfl
  · rw [if_neg (show ¬ a > b from fun z => h1 (Int64.lt_iff_toInt_lt.mp z)), if_neg h1]
    by_cases h2 : a.toInt = b.toInt
    · rw [if_pos (Int64.toInt_inj.mp h2), if_pos h2]; rfl
    · rw [if_neg (fun z => h2 (by rw [z])), if_neg h2]; rfl
theorem aw_tableIn {dflt lo hi : Int} {offs : Array Int} {len : Nat} {x off : Int} (tgt : Nat) (hd : decode M.2.1 pc = .ok (.tableswitch dflt lo hi offs, len)) (h1 : ¬ x < lo) (h2 : ¬ hi < x) (ho : offs[(x - lo).toNat]? = some off) (ht : (pc : Int) + off = (tgt : Int)) (k : AW M mc ms Q tgt ls st t h ck sk) : AW M mc ms Q pc ls (vI x :: st) t h ck sk := by
  intro G p l e R s m args below meth c H locs lsC stC C hR hL hS hq
  obtain ⟨a, r, rfl, rfl, hS1⟩ := SR.i hS
  exact lv_tableIn C.1 C.2.1 hd h1 h2 ho ht (k G p l e R s m args below meth c H locs lsC _ C hR hL hS1 hq)
theorem aw_tableOut {dflt lo hi : Int} {offs : Array Int} {len : Nat} {x : Int} (tgt : Nat) (hd : decode M.2.1 pc = .ok (.tableswitch dflt lo hi offs, len)) (h1 : x < lo ∨ hi < x) (ht : (pc : Int) + dflt = (tgt : Int)) (k : AW M mc ms Q tgt ls st t h ck sk) : AW M mc ms Q pc ls (vI x :: st) t h ck sk := by
  intro G p l e R s m args below meth c H locs lsC stC C hR hL hS hq
  obtain ⟨a, r, rfl, rfl, hS1⟩ := SR.i hS
  exact lv_tableOut C.1 C.2.1 hd h1 ht (k G p l e R s m args below meth c H locs lsC _ C hR hL hS1 hq)
theorem aw_lookup {dflt : Int} {ps : Array (Int × Int)} {len : Nat} {x off : Int} (tgt : Nat) (hd : decode M.2.1 pc = .ok (.lookupswitch dflt ps, len)) (hp : (ps.toList.zip (ps.toList.drop 1)).all (fun (a, next) => a.1 < next.1) = true) (ho : Op.lookupswitch.offset ps.toList dflt x = off) (ht : (pc : Int) + off = (tgt : Int)) (k : AW M mc ms Q tgt ls st t h ck sk) : AW M mc ms Q pc ls (vI x :: st) t h ck sk := by
  intro G p l e R s m args below meth c H locs lsC stC C hR hL hS hq
  obtain ⟨a, r, rfl, rfl, hS1⟩ := SR.i hS
  exact lv_lookup C.1 C.2.1 hd hp ho ht (k G p l e R s m args below meth c H locs lsC _ C hR hL hS1 hq)
/-! returns -/
theorem aw_ireturn {x : Int} (hd : decode M.2.1 pc = .ok (.ireturn, 1)) (hr : M.2.2.2.1 = some .int) (hc : ck ≤ mc) (hs : sk ≤ ms) (hQ : Q (some (vI x)) t h) : AW M mc ms Q pc ls [vI x] t h ck sk := by
  intro G p l e R s m args below meth c H locs lsC stC C hR hL hS hq
  obtain ⟨a, r, rfl, rfl, hS1⟩ := SR.i hS
  cases SR.nil hS1
  exact W.widen hc hs (W.iret C.1 C.2.1 (C.2.2.1.trans hr) (fun t2 ht hW => ⟨_, _, _, _, hQ, rfl, ⟨⟨_, rfl, rfl⟩, trivial⟩, by rw [ht]; exact hR⟩) hq hd C.2.2.2.2.2.2.1)
theorem am_bool {x : Int32} (h1 : 0 ≤ x.toInt) (h2 : x.toInt ≤ 1) : narrow .boolean (.int x) = .int x := by
  have h : x = 0 ∨ x = 1 := by
    rcases (show x.toInt = 0 ∨ x.toInt = 1 by omega) with h | h
    · exact Or.inl (Int32.toInt_inj.mp (by rw [h]; rfl))
    · exact Or.inr (Int32.toInt_inj.mp (by rw [h]; rfl))
  rcases h with rfl | rfl <;> rfl
theorem aw_zreturn {x : Int} (hd : decode M.2.1 pc = .ok (.ireturn, 1)) (hr : M.2.2.2.1 = some .boolean) (hc : ck ≤ mc) (hs : sk ≤ ms) (h1 : 0 ≤ x) (h2 : x ≤ 1) (hQ : Q (some (vI x)) t h) : AW M mc ms Q pc ls [vI x] t h ck sk := by
  intro G p l e R s m args below meth c H locs lsC stC C hR hL hS hq
  obtain ⟨a, r, rfl, rfl, hS1⟩ := SR.i hS
  cases SR.nil hS1
  exact W.widen hc hs (W.zret C.1 C.2.1 (C.2.2.1.trans hr) (am_bool h1 h2) (fun t2 ht hW => ⟨_, _, _, _, hQ, rfl, ⟨⟨_, rfl, rfl⟩, trivial⟩, by rw [ht]; exact hR⟩) hq hd C.2.2.2.2.2.2.1)
theorem aw_lreturn {x : Int} (hd : decode M.2.1 pc = .ok (.lreturn, 1)) (hr : M.2.2.2.1 = some .long) (hc : ck ≤ mc) (hs : sk ≤ ms) (hQ : Q (some (vL x)) t h) : AW M mc ms Q pc ls [vL x] t h ck sk := by
  intro G p l e R s m args below meth c H locs lsC stC C hR hL hS hq
  obtain ⟨a, r, rfl, rfl, hS1⟩ := SR.l hS
  cases SR.nil hS1
  exact W.widen hc hs (W.lret C.1 C.2.1 (C.2.2.1.trans hr) (fun t2 ht hW => ⟨_, _, _, _, hQ, rfl, ⟨⟨_, rfl, rfl⟩, trivial⟩, by rw [ht]; exact hR⟩) hq hd C.2.2.2.2.2.2.1)
theorem aw_areturn {x : Nat} {rt : FieldType} (hd : decode M.2.1 pc = .ok (.areturn, 1)) (hr : M.2.2.2.1 = some rt) (hrt : (∃ n, rt = .object n) ∨ ∃ t, rt = .array t) (hc : ck ≤ mc) (hs : sk ≤ ms) (hQ : Q (some (vR x)) t h) : AW M mc ms Q pc ls [vR x] t h ck sk := by
  intro G p l e R s m args below meth c H locs lsC stC C hR hL hS hq
  obtain ⟨r, rfl, hS1⟩ := SR.r hS
  cases SR.nil hS1
  exact W.widen hc hs (W.aret C.1 C.2.1 (C.2.2.1.trans hr) hrt (Or.inr ⟨_, rfl⟩) (fun t2 ht hW => ⟨_, _, _, _, hQ, rfl, ⟨rfl, trivial⟩, by rw [ht]; exact hR⟩) hq hd C.2.2.2.2.2.2.1)
theorem aw_return (hd : decode M.2.1 pc = .ok (.return_, 1)) (hr : M.2.2.2.1 = none) (hc : ck ≤ mc) (hs : sk ≤ ms) (hQ : Q none t h) : AW M mc ms Q pc ls [] t h ck sk := by
  intro G p l e R s m args below meth c H locs lsC stC C hR hL hS hq
  cases SR.nil hS
  exact W.widen hc hs (W.vret C.1 C.2.1 (C.2.2.1.trans hr) (fun t2 ht hW => ⟨_, _, _, none, hQ, rfl, trivial, by rw [ht]; exact hR⟩) hq hd C.2.2.2.2.2.2.1)
end AMS
