theorem ws_of {w : Cond} (i : Nat) (h : tables_1[i]? = some w) (hg : goodWord w = true) : w ∈ WS := List.mem_filter.mpr ⟨List.mem_cons_of_mem _ (by unfold lw_tbl; exact List.mem_append_right _ (List.mem_of_getElem? h)), hg⟩
def KF (C : String) (T : u_T) (N : Nat) : Prop := (∀ w ∈ u_ws C T N, w ∈ WS) ∧ (∃ ty : Nat → FieldType, ∀ k, k < N → parseFieldDescriptor (T k).2.2.1 = some (ty k)) ∧ ∀ a, a < N → ∀ b, b < N → a ≠ b → (T a).2.1 ≠ (T b).2.1
/-- a field by its pool number: of kind ci, place j; b: whether a reference -/
def FX (b : Bool) (own : String) (idx ci : Nat) (j : Int) (N : Nat) : Prop := ∃ (C : String) (T : u_T) (k : Nat), vwCl[ci]? = some (C, T, N) ∧ (k : Int) = j ∧ k < N ∧ ci < 20 ∧ am_isR ci k = b ∧ Cond.fieldLink own idx (T k).1 (T k).2.1 (T k).2.2.1 ∈ WS ∧ KF C T N
/-- the same, and what may be stored -/
def FP (b fin : Bool) (ty : FieldType) (own : String) (idx ci : Nat) (j : Int) (N : Nat) : Prop := ∃ (C : String) (T : u_T) (k : Nat), vwCl[ci]? = some (C, T, N) ∧ (k : Int) = j ∧ k < N ∧ ci < 20 ∧ am_isR ci k = b ∧ Cond.fieldLink own idx (T k).1 (T k).2.1 (T k).2.2.1 ∈ WS ∧ KF C T N ∧ parseFieldDescriptor (T k).2.2.1 = some ty ∧ (T k).2.2.2 = fin ∧ (fin = true → (T k).1 = own)
theorem Rp.lt {G : GX} {t : Tp} {h : Mem} {H : Heap} {U : State} (hR : Rp G t h H) (hG : am_st G U) {a k N : Nat} (hk : t.2.1 a = (k, N)) (h1 : k ≠ 99) (h2 : k ≠ 20) (h3 : k ≠ 21) : a < t.1 := by
  refine Decidable.byContradiction fun hn => ?_
  by_cases hs : a < 1000000
  · have := hR.2.2.2.2.1 a (by omega) hs
    rw [hk] at this
    exact h1 this
  · have e := (hR.2.2.2.2.2 a (by omega)).2
    rcases hG a (by omega) with h | ⟨_, _, _, _, h, _⟩
    · rw [← e, hk] at h
      exact h1 h
    · rw [← e, hk] at h
      rcases h with h | h
      · exact h2 h.1
      · exact h3 h.1
theorem Rp.lt2 {G : GX} {t : Tp} {h : Mem} {H : Heap} (hR : Rp G t h H) {a k N : Nat} (hk : t.2.1 a = (k, N)) (h1 : k ≠ 99) (h2 : a < 1000000) : a < t.1 := by
  refine Decidable.byContradiction fun hn => ?_
  have := hR.2.2.2.2.1 a (by omega) h2
  rw [hk] at this
  exact h1 this
theorem rho_lt {G : GX} {a : Nat} (h : a < 1000000) : rho G a = G.1.size + a := if_pos h
theorem Rp.at {G : GX} {t : Tp} {h : Mem} {H : Heap} (hR : Rp G t h H) {a : Nat} (ha : a < t.1) : rho G a = G.1.size + a := rho_lt (Nat.lt_of_lt_of_le ha hR.2.1)
/-- one cell is another -/
theorem Rp.upd {G : GX} {t t' : Tp} {h h' : Mem} {H H' : Heap} {a : Nat} (hR : Rp G t h H) (ha : a < t.1) (e1 : t'.1 = t.1) (e2 : t'.2.1 = t.2.1) (e3 : ∀ b, b ≠ a → h' b = h b ∧ t'.2.2 b = t.2.2 b)
    (hc : cok G t' h' a H') (hz : H'.size = H.size) (ho : ∀ q, q ≠ G.1.size + a → H'[q]? = H[q]?) : Rp G t' h' H' := by
  obtain ⟨r1, r2, r3, r4, r5, r6⟩ := hR
  refine ⟨by rw [hz, r1, e1], by rw [e1]; exact r2, fun q hq => ?_, fun b hb => ?_, fun b h1 h2 => ?_, fun b hb => ?_⟩
  · rw [ho q (by omega)]; exact r3 q hq
  · by_cases e : b = a
    · rw [e]; exact hc
    · obtain ⟨cell, q1, q2, q3, q4, q5⟩ := r4 b (by rw [← e1]; exact hb)
      obtain ⟨e4, e5⟩ := e3 b e
      refine ⟨cell, by rw [ho _ (by omega)]; exact q1, q2, by rw [e2]; exact q3, by rw [e2]; exact q4, fun j hj => ?_⟩
      rw [e2] at hj ⊢
      obtain ⟨v, q6, q7⟩ := q5 j hj
      refine ⟨v, q6, ?_⟩
      unfold am_sl at q7 ⊢
      rw [e2, e4, e5]
      exact q7
  · rw [e2]; exact r5 b (by rw [← e1]; exact h1) h2
  · have hne : b ≠ a := by omega
    rw [(e3 b hne).1, e2]
    exact r6 b hb
theorem setSlot_self {cell : Cell} {i : Nat} {v : Value} (h : i < cell.slots.size) : (cell.setSlot i v).slots[i]? = some v := by simp [Cell.setSlot, h]
theorem setSlot_ne {cell : Cell} {i j : Nat} {v : Value} (h : i ≠ j) : (cell.setSlot i v).slots[j]? = cell.slots[j]? := by simp [Cell.setSlot, Array.getElem?_setIfInBounds, h]
theorem arrV_of {c : ClassId} {N : Nat} {f : Nat → Value} {cell : Cell} (e : cell = arrV c N f) : cell.slots.size = N := by rw [e]; exact arrV_size c N f
theorem am_nu : VmData.none ≠ VmData.unknown := fun h => by cases h
section AMH
variable {M : MI} {mc ms : Nat} {Q : Option AV → Tp → Mem → Prop} {pc : Nat} {ls ls' : List (Option AV)} {st : List AV} {t : Tp} {h : Mem} {ck sk : Nat}
theorem aw_getI {idx ci N a : Nat} {j : Int} (hd : decode M.2.1 pc = .ok (.getfield idx, 3)) (hl : FX false M.2.2.2.2.1 idx ci j N) (hk : t.2.1 a = (ci, N)) (k : AW M mc ms Q (pc + 3) ls (vI (h a j) :: st) t h ck sk) : AW M mc ms Q pc ls (vR a :: st) t h ck sk := by
  intro G p l e R s m args below meth c H locs lsC stC C hR hL hS hq
  obtain ⟨r, rfl, hS1⟩ := SR.r hS
  obtain ⟨CC, T, kk, h1, rfl, h3, h4, h5, h6, h7, -⟩ := hl
  have hG : GW G s := C.2.2.2.2.2.2.2.2.2.2.2.1
  have ha := hR.lt hG.2.1 hk (by omega) (by omega) (by omega)
  obtain ⟨cell, q1, q2, q3, q4, q5⟩ := hR.2.2.2.1 a ha
  rw [hk] at q3 q5
  obtain ⟨v, q6, q7⟩ := q5 kk h3
  obtain ⟨hS0, hfc, kC, hkC, hkind⟩ := hG.1.1 ci _ h1
  obtain ⟨cf, kf, fi, f, hi, hsl⟩ := hS0 kk h3
  obtain ⟨y, rfl, hy⟩ := q7.2 (by rw [hk]; exact h5)
  refine W.getf C.1 C.2.1 C.2.2.2.2.1 (C.2.2.2.2.2.1 _ h6) hi (u_facts hfc hkC (u_lays C.2.2.2.2.2.1 h7 h3) hi).1 (cell := cell) (by rw [hR.at ha]; exact q1) (by rw [q2]; exact am_nu) (v := .int y) ?_ rfl rfl hd (k G p l e R s m args below meth c H locs lsC _ C hR hL ⟨⟨_, rfl, hy⟩, hS1⟩ hq)
  rw [hsl]
  simpa [am_pos, h4] using q6
theorem aw_getR {idx ci N a : Nat} {j : Int} {r0 : Option Nat} (hd : decode M.2.1 pc = .ok (.getfield idx, 3)) (hl : FX true M.2.2.2.2.1 idx ci j N) (hk : t.2.1 a = (ci, N)) (hr : t.2.2 a j = r0) (k : AW M mc ms Q (pc + 3) ls (vQ r0 :: st) t h ck sk) : AW M mc ms Q pc ls (vR a :: st) t h ck sk := by
  intro G p l e R s m args below meth c H locs lsC stC C hR hL hS hq
  obtain ⟨r, rfl, hS1⟩ := SR.r hS
  obtain ⟨CC, T, kk, h1, rfl, h3, h4, h5, h6, h7, -⟩ := hl
  have hG : GW G s := C.2.2.2.2.2.2.2.2.2.2.2.1
  have ha := hR.lt hG.2.1 hk (by omega) (by omega) (by omega)
  obtain ⟨cell, q1, q2, q3, q4, q5⟩ := hR.2.2.2.1 a ha
  rw [hk] at q3 q5
  obtain ⟨v, q6, q7⟩ := q5 kk h3
  obtain ⟨hS0, hfc, kC, hkC, hkind⟩ := hG.1.1 ci _ h1
  obtain ⟨cf, kf, fi, f, hi, hsl⟩ := hS0 kk h3
  have hv := q7.1 (by rw [hk]; exact h5)
  rw [hr] at hv
  refine W.getf C.1 C.2.1 C.2.2.2.2.1 (C.2.2.2.2.2.1 _ h6) hi (u_facts hfc hkC (u_lays C.2.2.2.2.2.1 h7 h3) hi).1 (cell := cell) (by rw [hR.at ha]; exact q1) (by rw [q2]; exact am_nu) (v := v) ?_ rfl rfl hd (k G p l e R s m args below meth c H locs lsC _ C hR hL ⟨hv, hS1⟩ hq)
  rw [hsl]
  simpa [am_pos, h4] using q6
/-- a store into a field, as the kit has it -/
theorem am_put {G : GX} {idx ci N a : Nat} {j : Int} {b fin : Bool} {ty : FieldType} {v : Value} {t' : Tp} {h' : Mem} {p : Program} {l : Launch} {e : Env} {R : Room} {s : State} {m : MethodId} {args : Array Value} {below : List Frame} {meth : Method} {c : Code} {H : Heap} {locs : List Loc} {lsC : Array Slot} {rest : List Value} {QC : State → Prop}
    (C : CX M G mc ms p R s m args meth c) (hR : Rp G t h H) (hd : decode M.2.1 pc = .ok (.putfield idx, 3)) (hl : FP b fin ty M.2.2.2.2.1 idx ci j N) (hfi : fin = true → M.1.name = "<init>") (hk : t.2.1 a = (ci, N)) (hn : narrow ty v = v) (hf : fits ty v = true)
    (e1 : t'.1 = t.1) (e2 : t'.2.1 = t.2.1) (e3 : ∀ b, b ≠ a → h' b = h b ∧ t'.2.2 b = t.2.2 b) (e4 : ∀ i : Nat, (i : Int) ≠ j → h' a i = h a i ∧ t'.2.2 a i = t.2.2 a i) (e5 : ∀ i : Nat, (i : Int) = j → am_isR ci i = b → am_sl G t' h' a i v)
    (hq : ∀ q ∈ locs, G.1.size ≤ q.base) (kk : ∀ (H' : Heap) (locs' : List Loc), Rp G t' h' H' → (∀ q ∈ locs', G.1.size ≤ q.base) → W p l e R s m args below meth c H' locs' ck sk QC (F0 m (pc + 3) lsC rest)) :
    W p l e R s m args below meth c H locs ck sk QC (F0 m pc lsC (v :: .ref (rho G a) :: rest)) := by
  obtain ⟨CC, T, kf0, h1, h2, h3, h4, h5, h6, h7, h8, h9, h10⟩ := hl
  have hG : GW G s := C.2.2.2.2.2.2.2.2.2.2.2.1
  have hts := C.2.2.2.2.2.1
  have ha := hR.lt hG.2.1 hk (by omega) (by omega) (by omega)
  obtain ⟨cell, q1, q2, q3, q4, q5⟩ := hR.2.2.2.1 a ha
  rw [hk] at q3 q4 q5
  obtain ⟨v0, q6, q7⟩ := q5 kf0 h3
  obtain ⟨ty0, hty0⟩ := h7.2.1
  have hap := va_apart (own := M.2.2.2.2.1) hts h7.1 ty0 hty0 h7.2.2 hG.1 h1
  obtain ⟨hS0, hfc, kC, hkC, hkind⟩ := hG.1.1 ci _ h1
  obtain ⟨cf, kf, fi, f, hi, hsl⟩ := hS0 kf0 h3
  have hlay := hts _ (h7.1 _ (u_in_lay h3))
  have hst := (u_facts hfc hkC (u_lays hts h7.1 h3) hi).1
  have hps : ∀ i, am_pos G ci i = G.2.1.2 ci i := fun i => if_pos h4
  have hcl : cell.cls = G.2.1.1 ci := by rw [q3]; exact if_pos h4
  have hlt : f.slot < cell.slots.size := by rw [hsl, ← hps]; exact k2_hasslot q6
  have fin2 : ∀ H' : Heap, H'[rho G a]? = some (cell.setSlot f.slot v) → H'.size = H.size → (∀ q, q ≠ rho G a → H'[q]? = H[q]?) → Rp G t' h' H' := by
    intro H' g1 g2 g3
    rw [hR.at ha] at g1 g3
    refine hR.upd ha e1 e2 e3 ⟨_, g1, q2, by rw [e2, hk]; exact q3, by rw [e2, hk]; intro hc; omega, fun i hi2 => ?_⟩ g2 g3
    rw [e2, hk] at hi2 ⊢
    by_cases ei : (i : Int) = j
    · have ei2 : i = kf0 := by omega
      refine ⟨v, ?_, e5 i ei (by rw [ei2]; exact h5)⟩
      show (cell.setSlot f.slot v).slots[am_pos G ci i]? = _
      rw [hps, ei2, hsl]
      rw [hsl] at hlt
      exact setSlot_self hlt
    · obtain ⟨v1, q8, q9⟩ := q5 i hi2
      refine ⟨v1, ?_, ?_⟩
      · show (cell.setSlot f.slot v).slots[am_pos G ci i]? = _
        rw [setSlot_ne, q8]
        rw [hsl, hps]
        exact hap kf0 i h3 hi2 (by omega)
      · obtain ⟨e6, e7⟩ := e4 i ei
        unfold am_sl at q9 ⊢
        rw [e2, e6, e7]
        exact q9
  have hq2 : ∀ q ∈ locs ++ [⟨rho G a, f.slot⟩], G.1.size ≤ q.base := by
    intro q hq3
    rcases List.mem_append.mp hq3 with h | h
    · exact hq q h
    · rw [List.mem_singleton.mp h]
      show G.1.size ≤ rho G a
      rw [hR.at ha]
      omega
  cases fin with
  | false =>
    unfold u_lay at hlay
    rw [if_neg (by rw [h9]; decide)] at hlay
    have h6' := u_store hfc hkC hkind hlay hi h8 hn hf
    exact W.putK C.1 C.2.1 (f := f) ⟨C.2.2.2.2.1, hts _ h6, ⟨_, _, _, hi⟩, hst⟩ (by rw [hcl]; exact h6') (cell := cell) (by rw [hR.at ha]; exact q1) q2 hlt rfl rfl hd fun H' g1 g2 g3 => kk H' _ (fin2 H' g1 g2 g3) hq2
  | true =>
    unfold u_lay at hlay
    rw [if_pos h9] at hlay
    have hcf : m.cls = cf := by
      obtain ⟨_, _, c', _, _, _, -, -, hf', -, -, -, hown2, -⟩ := Cond.laysFinal_spec hlay
      have e1 : c' = cf := by have := hi.symm.trans hf'; simp at this; exact this.1.symm
      rw [h10 rfl] at hown2
      rw [← e1]; exact Option.some.inj (C.2.2.2.2.1.symm.trans hown2)
    have h6' := u_fits hfc hkC hkind (Or.inr hlay) hi h8 hn hf
    exact W.putFinK C.1 C.2.1 C.2.2.2.2.1 (hts _ h6) hi hst hcf (C.2.2.2.2.2.2.2.2.2.2.2.2.trans (hfi rfl)) (by rw [hcl]; exact h6') (cell := cell) (by rw [hR.at ha]; exact q1) q2 hlt rfl rfl hd fun H' g1 g2 g3 => kk H' _ (fin2 H' g1 g2 g3) hq2
theorem am_up_ne {h : Mem} {a b : Nat} {k v : Int} (e : b ≠ a) : am_up h a k v b = h b := by funext j; simp [am_up, e]
theorem am_upR_ne {h : Nat → Int → Option Nat} {a b : Nat} {k : Int} {v : Option Nat} (e : b ≠ a) : am_upR h a k v b = h b := by funext j; simp [am_upR, e]
theorem aw_putI {idx ci N a : Nat} {j x : Int} (hd : decode M.2.1 pc = .ok (.putfield idx, 3)) (hl : FP false false .int M.2.2.2.2.1 idx ci j N) (hk : t.2.1 a = (ci, N)) (k : AW M mc ms Q (pc + 3) ls st t (am_up h a j x) ck sk) : AW M mc ms Q pc ls (vI x :: vR a :: st) t h ck sk := by
  intro G p l e R s m args below meth c H locs lsC stC C hR hL hS hq
  obtain ⟨y, r, rfl, rfl, hS1⟩ := SR.i hS
  obtain ⟨r, rfl, hS2⟩ := SR.r hS1
  refine am_put C hR hd hl (fun z => by cases z) hk rfl rfl (t' := t) (h' := am_up h a j y.toInt) rfl rfl (fun b hb => ⟨am_up_ne hb, rfl⟩) (fun i hi => ⟨by simp [am_up, hi], rfl⟩) (fun i hi hr => ?_) hq (fun H' locs' g1 g2 => k G p l e R s m args below meth c H' locs' lsC _ C g1 hL hS2 g2)
  refine ⟨fun z => ?_, fun _ => ⟨y, rfl, by simp [am_up, hi]⟩⟩
  rw [hk, hr] at z
  cases z
theorem aw_putZ {idx ci N a : Nat} {j x : Int} (hd : decode M.2.1 pc = .ok (.putfield idx, 3)) (hl : FP false false .boolean M.2.2.2.2.1 idx ci j N) (hk : t.2.1 a = (ci, N)) (h1 : 0 ≤ x) (h2 : x ≤ 1) (k : AW M mc ms Q (pc + 3) ls st t (am_up h a j x) ck sk) : AW M mc ms Q pc ls (vI x :: vR a :: st) t h ck sk := by
  intro G p l e R s m args below meth c H locs lsC stC C hR hL hS hq
  obtain ⟨y, r, rfl, rfl, hS1⟩ := SR.i hS
  obtain ⟨r, rfl, hS2⟩ := SR.r hS1
  have hy : y = 0 ∨ y = 1 := by
    rcases (show y.toInt = 0 ∨ y.toInt = 1 by omega) with h | h
    · exact Or.inl (Int32.toInt_inj.mp (by rw [h]; rfl))
    · exact Or.inr (Int32.toInt_inj.mp (by rw [h]; rfl))
  refine am_put C hR hd hl (fun z => by cases z) hk (am_bool h1 h2) (by rcases hy with rfl | rfl <;> rfl) (t' := t) (h' := am_up h a j y.toInt) rfl rfl (fun b hb => ⟨am_up_ne hb, rfl⟩) (fun i hi => ⟨by simp [am_up, hi], rfl⟩) (fun i hi hr => ?_) hq (fun H' locs' g1 g2 => k G p l e R s m args below meth c H' locs' lsC _ C g1 hL hS2 g2)
  refine ⟨fun z => ?_, fun _ => ⟨y, rfl, by simp [am_up, hi]⟩⟩
  rw [hk, hr] at z
  cases z
theorem aw_putR {idx ci N a b : Nat} {j : Int} {fin : Bool} {ty : FieldType} (hd : decode M.2.1 pc = .ok (.putfield idx, 3)) (hl : FP true fin ty M.2.2.2.2.1 idx ci j N) (hfi : fin = true → M.1.name = "<init>") (hty : ∀ z : Nat, narrow ty (.ref z) = .ref z ∧ fits ty (.ref z) = true) (hk : t.2.1 a = (ci, N)) (k : AW M mc ms Q (pc + 3) ls st (t.1, t.2.1, am_upR t.2.2 a j (some b)) h ck sk) : AW M mc ms Q pc ls (vR b :: vR a :: st) t h ck sk := by
  intro G p l e R s m args below meth c H locs lsC stC C hR hL hS hq
  obtain ⟨r, rfl, hS1⟩ := SR.r hS
  obtain ⟨r, rfl, hS2⟩ := SR.r hS1
  refine am_put C hR hd hl hfi hk (hty _).1 (hty _).2 (t' := (t.1, t.2.1, am_upR t.2.2 a j (some b))) (h' := h) rfl rfl (fun b hb => ⟨rfl, am_upR_ne hb⟩) (fun i hi => ⟨rfl, by simp [am_upR, hi]⟩) (fun i hi hr => ?_) hq (fun H' locs' g1 g2 => k G p l e R s m args below meth c H' locs' lsC _ C g1 hL hS2 g2)
  refine ⟨fun _ => by simp [am_upR, hi, va_rf], fun z => ?_⟩
  change am_isR (t.2.1 a).1 i = false at z
  rw [hk, hr] at z
  cases z
theorem am_in {i : Int32} {N : Nat} (h0 : 0 ≤ i.toInt) (h1 : i.toInt < (N : Int)) : ¬ (i < 0 ∨ N ≤ i.toNatClampNeg) := by
  rintro (h | h)
  · exact absurd (am0_lt.mp h) (by omega)
  · rw [i32_clamp] at h
    omega
theorem am_nat {i : Int} (h0 : 0 ≤ i) : ((i.toNat : Nat) : Int) = i := Int.toNat_of_nonneg h0
/-- an array of numbers, wherever it lies -/
theorem Rp.arr {G : GX} {H : Heap} {U : State} (hR : Rp G t h H) (hG : GW G U) {a N : Nat} (hk : t.2.1 a = (20, N)) : ∃ cell : Cell, H[rho G a]? = some cell ∧ cell.vm ≠ .unknown ∧ U.isArrayOf cell .int ∧ cell.slots.size = N ∧ ∀ j : Nat, j < N → ∃ x : Int32, cell.slots[j]? = some (.int x) ∧ x.toInt = h a (j : Int) := by
  by_cases hs : a < 1000000
  · have ha := hR.lt2 hk (by omega) hs
    obtain ⟨cell, q1, q2, q3, q4, q5⟩ := hR.2.2.2.1 a ha
    rw [hk] at q4 q5
    obtain ⟨f, hf⟩ := q4 (Nat.le_refl 20)
    refine ⟨cell, by rw [hR.at ha]; exact q1, by rw [q2]; exact am_nu, ?_, arrV_of hf, fun j hj => ?_⟩
    · rw [hf]
      exact (hG.1.2 0 _ rfl).1 _ _
    · obtain ⟨v, q6, q7⟩ := q5 j hj
      obtain ⟨x, rfl, hx⟩ := q7.2 (by rw [hk]; rfl)
      exact ⟨x, q6, hx⟩
  · obtain ⟨e1, e2⟩ := hR.2.2.2.2.2 a (by omega)
    rcases hG.2.1 a (by omega) with h | ⟨cell, q1, q2, q3, q4, q5⟩
    · rw [← e2, hk] at h; cases h
    · rw [← e2, hk] at q3 q4 q5
      have hlt := (Array.getElem?_eq_some_iff.mp q1).1
      refine ⟨cell, ?_, q2, ?_, q3, fun j hj => ?_⟩
      · unfold rho
        rw [if_neg hs, hR.2.2.1 _ hlt]
        exact q1
      · rcases q4 with z | z
        · exact z.2
        · cases z.1
      · obtain ⟨x, z1, z2⟩ := q5 j hj
        exact ⟨x, z1, by rw [z2, e1]⟩
theorem aw_iaload {a N : Nat} {i : Int} (hd : decode M.2.1 pc = .ok (.iaload, 1)) (hk : t.2.1 a = (20, N)) (h0 : 0 ≤ i) (h1 : i < (N : Int)) (k : AW M mc ms Q (pc + 1) ls (vI (h a i) :: st) t h ck sk) : AW M mc ms Q pc ls (vI i :: vR a :: st) t h ck sk := by
  intro G p l e R s m args below meth c H locs lsC stC C hR hL hS hq
  obtain ⟨y, r, rfl, rfl, hS1⟩ := SR.i hS
  obtain ⟨r, rfl, hS2⟩ := SR.r hS1
  have hG : GW G s := C.2.2.2.2.2.2.2.2.2.2.2.1
  obtain ⟨cell, q1, q2, q3, q4, q5⟩ := hR.arr hG hk
  obtain ⟨x, q6, q7⟩ := q5 y.toInt.toNat (by omega)
  rw [am_nat h0] at q7
  exact W.iald C.1 C.2.1 q1 q3 q2 (by rw [q4]; exact am_in h0 h1) q6 rfl rfl hd (k G p l e R s m args below meth c H locs lsC _ C hR hL ⟨⟨_, rfl, q7⟩, hS2⟩ hq)
theorem aw_arraylength {a N : Nat} {n : Int} (hd : decode M.2.1 pc = .ok (.arraylength, 1)) (hk : t.2.1 a = (20, N)) (hN : (N : Int) = n) (hs : N < 2147483648) (k : AW M mc ms Q (pc + 1) ls (vI n :: st) t h ck sk) : AW M mc ms Q pc ls (vR a :: st) t h ck sk := by
  intro G p l e R s m args below meth c H locs lsC stC C hR hL hS hq
  obtain ⟨r, rfl, hS2⟩ := SR.r hS
  have hG : GW G s := C.2.2.2.2.2.2.2.2.2.2.2.1
  obtain ⟨cell, q1, q2, q3, q4, q5⟩ := hR.arr hG hk
  refine W.alen C.1 C.2.1 q1 q3 rfl rfl rfl hd (k G p l e R s m args below meth c H locs lsC _ C hR hL ⟨⟨_, rfl, ?_⟩, hS2⟩ hq)
  rw [q4, ← hN]
  exact toInt_of rfl hs
theorem aw_iastore {a N : Nat} {i x : Int} (hd : decode M.2.1 pc = .ok (.iastore, 1)) (hk : t.2.1 a = (20, N)) (ha : a < 1000000) (h0 : 0 ≤ i) (h1 : i < (N : Int)) (k : AW M mc ms Q (pc + 1) ls st t (am_up h a i x) ck sk) : AW M mc ms Q pc ls (vI x :: vI i :: vR a :: st) t h ck sk := by
  intro G p l e R s m args below meth c H locs lsC stC C hR hL hS hq
  obtain ⟨z, r, rfl, rfl, hS0⟩ := SR.i hS
  obtain ⟨y, r, rfl, rfl, hS1⟩ := SR.i hS0
  obtain ⟨r, rfl, hS2⟩ := SR.r hS1
  have hG : GW G s := C.2.2.2.2.2.2.2.2.2.2.2.1
  have ha2 := hR.lt2 hk (by omega) ha
  obtain ⟨cell, q1, q2, q3, q4, q5⟩ := hR.2.2.2.1 a ha2
  rw [hk] at q3 q4 q5
  obtain ⟨f, hf⟩ := q4 (Nat.le_refl 20)
  have hsz := arrV_of hf
  refine W.iast C.1 C.2.1 (cell := cell) (by rw [hR.at ha2]; exact q1) (by rw [hf]; exact (hG.1.2 0 _ rfl).1 _ _) (by rw [q2]; exact am_nu) (by rw [hsz]; exact am_in h0 h1) rfl rfl hd (fun H' g1 g2 g3 => k G p l e R s m args below meth c H' _ lsC _ C ?_ hL hS2 ?_)
  · rw [hR.at ha2] at g1 g3
    refine hR.upd ha2 rfl rfl (fun b hb => ⟨am_up_ne hb, rfl⟩) ⟨_, g1, q2, by rw [hk]; exact q3, fun _ => ?_, fun i hi => ?_⟩ g2 g3
    · rw [hk, hf, arrV_store]
      exact ⟨_, rfl⟩
    · rw [hk] at hi ⊢
      have e : am_pos G 20 i = i := if_neg (by decide)
      show ∃ v, (cell.setSlot y.toNatClampNeg (.int z)).slots[am_pos G 20 i]? = some v ∧ _
      rw [e]
      by_cases ei : y.toNatClampNeg = i
      · refine ⟨.int z, by rw [ei]; exact setSlot_self (by rw [hsz]; exact hi), ⟨fun hr => (by rw [hk] at hr; cases hr), fun _ => ⟨z, rfl, ?_⟩⟩⟩
        rw [i32_clamp] at ei
        have : (i : Int) = y.toInt := by omega
        simp [am_up, this]
      · obtain ⟨v, q6, q7⟩ := q5 i hi
        rw [show am_pos G (20, N).1 i = i from e] at q6
        refine ⟨v, by rw [setSlot_ne ei]; exact q6, ?_⟩
        have : ¬ (i : Int) = y.toInt := by rw [i32_clamp] at ei; omega
        unfold am_sl at q7 ⊢
        simpa [am_up, this] using q7
  · intro q hq3
    rcases List.mem_append.mp hq3 with h | h
    · exact hq q h
    · rw [List.mem_singleton.mp h]
      show G.1.size ≤ rho G a
      rw [hR.at ha2]
      omega
theorem aw_aaload {a N kd : Nat} {i : Int} {r0 : Option Nat} (hd : decode M.2.1 pc = .ok (.aaload, 1)) (hk : t.2.1 a = (kd, N)) (hkd : kd = 23 ∨ kd = 24) (h0 : 0 ≤ i) (h1 : i < (N : Int)) (hr : t.2.2 a i = r0) (k : AW M mc ms Q (pc + 1) ls (vQ r0 :: st) t h ck sk) : AW M mc ms Q pc ls (vI i :: vR a :: st) t h ck sk := by
  intro G p l e R s m args below meth c H locs lsC stC C hR hL hS hq
  obtain ⟨y, r, rfl, rfl, hS1⟩ := SR.i hS
  obtain ⟨r, rfl, hS2⟩ := SR.r hS1
  have hG : GW G s := C.2.2.2.2.2.2.2.2.2.2.2.1
  have ha2 := hR.lt hG.2.1 hk (by omega) (by omega) (by omega)
  obtain ⟨cell, q1, q2, q3, q4, q5⟩ := hR.2.2.2.1 a ha2
  rw [hk] at q3 q4 q5
  obtain ⟨f, hf⟩ := q4 (show 20 ≤ kd by omega)
  have hsz := arrV_of hf
  obtain ⟨v, q6, q7⟩ := q5 y.toInt.toNat (show _ < N by omega)
  have epos : am_pos G kd y.toInt.toNat = y.toInt.toNat := if_neg (by omega)
  rw [show am_pos G (kd, N).1 y.toInt.toNat = _ from epos] at q6
  have hv := q7.1 (by rw [hk]; rcases hkd with rfl | rfl <;> rfl)
  rw [am_nat h0, hr] at hv
  rcases hkd with rfl | rfl
  · exact W.aald C.1 C.2.1 (cell := cell) (by rw [hR.at ha2]; exact q1) (by rw [hf]; exact (hG.1.2 3 _ rfl).1 _ _) rfl (by rw [q2]; exact am_nu) (by rw [hsz]; exact am_in h0 h1) q6 rfl rfl hd (k G p l e R s m args below meth c H locs lsC _ C hR hL ⟨hv, hS2⟩ hq)
  · exact W.aald C.1 C.2.1 (cell := cell) (by rw [hR.at ha2]; exact q1) (by rw [hf]; exact (hG.1.2 4 _ rfl).1 _ _) rfl (by rw [q2]; exact am_nu) (by rw [hsz]; exact am_in h0 h1) q6 rfl rfl hd (k G p l e R s m args below meth c H locs lsC _ C hR hL ⟨hv, hS2⟩ hq)
end AMH
