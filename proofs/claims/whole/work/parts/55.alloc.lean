/-! one more cell -/
def pT (t : Tp) (k N : Nat) : Tp := (t.1 + 1, fun b => if b = t.1 then (k, N) else t.2.1 b, fun b j => if b = t.1 then none else t.2.2 b j)
def pH (t : Tp) (h : Mem) : Mem := fun b => if b = t.1 then (fun _ => 0) else h b
theorem Rp.push {G : GX} {t : Tp} {h : Mem} {H H' : Heap} {k N : Nat} (hR : Rp G t h H) (hl : t.1 < 1000000) (hz : H'.size = H.size + 1) (ho : ∀ q, q < H.size → H'[q]? = H[q]?) (hc : cok G (pT t k N) (pH t h) t.1 H') : Rp G (pT t k N) (pH t h) H' := by
  obtain ⟨r1, r2, r3, r4, r5, r6⟩ := hR
  refine ⟨by rw [hz, r1]; show _ = G.1.size + (t.1 + 1); omega, by show t.1 + 1 ≤ _; omega, fun q hq => by rw [ho q (by omega)]; exact r3 q hq, fun b hb => ?_, fun b h1 h2 => ?_, fun b hb => ?_⟩
  · by_cases e : b = t.1
    · subst e; exact hc
    · have hb2 : b < t.1 := by have : b < t.1 + 1 := hb; omega
      obtain ⟨cell, q1, q2, q3, q4, q5⟩ := r4 b hb2
      have e1 : (pT t k N).2.1 b = t.2.1 b := if_neg e
      refine ⟨cell, by rw [ho _ (by omega)]; exact q1, q2, by rw [e1]; exact q3, by rw [e1]; exact q4, fun j hj => ?_⟩
      rw [e1] at hj ⊢
      obtain ⟨v, q6, q7⟩ := q5 j hj
      refine ⟨v, q6, ?_⟩
      unfold am_sl at q7 ⊢
      rw [e1, show pH t h b = h b from if_neg e, show (pT t k N).2.2 b = t.2.2 b from by funext j; exact if_neg e]
      exact q7
  · have h3 : t.1 + 1 ≤ b := h1
    show (if b = t.1 then (k, N) else t.2.1 b).1 = 99
    rw [if_neg (by omega)]
    exact r5 b (by omega) h2
  · show (if b = t.1 then _ else h b) = _ ∧ (if b = t.1 then (k, N) else t.2.1 b) = _
    rw [if_neg (by omega), if_neg (by omega)]
    exact r6 b hb
/-- a new object by its pool number -/
def NL (own : String) (idx ci N : Nat) : Prop := ∃ (C : String) (T : u_T) (ty : Nat → FieldType), Cond.classLink own idx C ∈ WS ∧ Cond.instantiable C N ∈ WS ∧ Cond.initialized C ∈ WS ∧ ci < 20 ∧ vwCl[ci]? = some (C, T, N) ∧ KF C T N ∧ (∀ k, k < N → parseFieldDescriptor (T k).2.2.1 = some (ty k)) ∧ ∀ j, j < N → (am_isR ci j = true → defaultValue (ty j) = .null) ∧ (am_isR ci j = false → defaultValue (ty j) = .int 0)
section ALO
variable {M M' : MI} {mc ms : Nat} {Q : Option AV → Tp → Mem → Prop} {pc : Nat} {ls ls' : List (Option AV)} {st : List AV} {t : Tp} {h : Mem} {ck sk mc' ms' : Nat} {Q' : Option AV → Tp → Mem → Prop}
theorem aw_new {idx ci N : Nat} (hd : decode M.2.1 pc = .ok (.new idx, 3)) (hl : NL M.2.2.2.2.1 idx ci N) (hlim : t.1 < 1000000) (hc : ck + 1 ≤ mc) (hs : sk + N ≤ ms) (k : AW M mc ms Q (pc + 3) ls (vR t.1 :: st) (pT t ci N) (pH t h) (ck + 1) (sk + N)) : AW M mc ms Q pc ls st t h ck sk := by
  intro G p l e R s m args below meth c H locs lsC stC C hR hL hS hq
  obtain ⟨CC, T, ty, l1, l2, l3, l4, l5, l6, l7, l8⟩ := hl
  have hts := C.2.2.2.2.2.1
  have hG : GW G s := C.2.2.2.2.2.2.2.2.2.2.2.1
  obtain ⟨k1, k2, -, -, -, -, -, kf, kl, kc, ks, -⟩ := id C
  have hKn := hG.1.1 ci _ l5
  refine W.newcK C.1 C.2.1 C.2.2.2.2.1 (hts _ l1) (hts _ l2) (hts _ l3) rfl hd (Nat.le_trans hc kc) (Nat.le_trans hs ks) hKn.2.1 rfl fun H1 kC hkC e1 z1 o1 => k G p l e R s m args below meth c H1 locs lsC (.ref H.size :: stC) C (hR.push hlim z1 o1 ?_) hL ⟨?_, hS⟩ hq
  · obtain ⟨cell, g1, g2, g3, g4⟩ := u_born ty hts l6.1 hKn hkC e1 l7
    have e0 : (pT t ci N).2.1 t.1 = (ci, N) := if_pos rfl
    have er : (pT t ci N).2.2 t.1 = fun _ => none := by funext j; exact if_pos rfl
    have eh : pH t h t.1 = fun _ => 0 := if_pos rfl
    refine ⟨cell, by rw [← hR.1]; exact g1, ?_, ?_, fun z => ?_, fun j hj => ?_⟩
    · first | exact g2 | exact g3
    · rw [e0]
      show _ = am_cls G ci
      unfold am_cls
      rw [if_pos l4]
      first | exact g2 | exact g3
    · rw [e0] at z
      have z2 : 20 ≤ ci := z
      omega
    · rw [e0] at hj ⊢
      refine ⟨defaultValue (ty j), ?_, ?_⟩
      · show cell.slots[am_pos G ci j]? = _
        unfold am_pos
        rw [if_pos l4]
        exact g4 j hj
      · unfold am_sl
        rw [e0, er, eh]
        exact ⟨fun z => (l8 j hj).1 z, fun z => ⟨0, (l8 j hj).2 z, rfl⟩⟩
  · show Value.ref H.size = va_rf (some (rho G t.1))
    rw [rho_lt hlim, ← hR.1]
    rfl
theorem aw_newarr {kd : Nat} {ty : FieldType} {i : Nat} {at0 : ArrayType} {x : Int} {N : Nat} (hd : decode M.2.1 pc = .ok (.newarray at0, 2)) (hty : newarray.typeOf at0 = ty) (hw : Cond.arrayClass ty ∈ WS) (hk : 20 ≤ kd ∧ kd ≤ 22) (hi : kd = 20 + i) (hG2 : ∀ G : GX, (am_tys G)[i]? = some (G.2.2.1 kd, ty)) (hdf : defaultValue ty = .int 0) (hra : ∀ (U : State) (cA : ClassId), va_RA U cA ty → U.vm.findClass ("[" ++ ty.toString) = some cA) (hb : componentBytes ty ≤ 4) (hx : x = (N : Int)) (hN : N ≤ 100000) (hlim : t.1 < 1000000) (hc : ck + 1 ≤ mc) (hs : sk + N ≤ ms)
    (k : AW M mc ms Q (pc + 2) ls (vR t.1 :: st) (pT t kd N) (pH t h) (ck + 1) (sk + N)) : AW M mc ms Q pc ls (vI x :: st) t h ck sk := by
  intro G p l e R s m args below meth c H locs lsC stC C hR hL hS hq
  obtain ⟨y, r, rfl, rfl, hS1⟩ := SR.i hS
  have hts := C.2.2.2.2.2.1
  have hG : GW G s := C.2.2.2.2.2.2.2.2.2.2.2.1
  obtain ⟨k1, k2, -, -, -, -, -, kf, kl, kc, ks, -⟩ := id C
  subst hty
  have hyn : y.toNatClampNeg = N := by rw [i32_clamp]; omega
  have hbb : N * componentBytes (newarray.typeOf at0) ≤ N * 4 := Nat.mul_le_mul_left N hb
  refine va_newaK C.1 C.2.1 (hts _ hw) rfl hd rfl (fun z => by have := am0_lt.mp z; omega) hyn (by omega) (Nat.le_trans hc kc) (Nat.le_trans hs ks) rfl fun H1 cA e1 z1 o1 _ hNm => k G p l e R s m args below meth c H1 locs lsC (.ref H.size :: r) C (hR.push hlim z1 o1 ?_) hL ⟨?_, hS1⟩ hq
  · have ecl : cA = am_cls G kd := by
      have := hra s _ (hG.1.2 i _ (hG2 G)).2
      unfold am_cls
      rw [if_neg (by omega)]
      exact Option.some.inj (hNm.symm.trans this)
    have e0 : (pT t kd N).2.1 t.1 = (kd, N) := if_pos rfl
    have er : (pT t kd N).2.2 t.1 = fun _ => none := by funext j; exact if_pos rfl
    have eh : pH t h t.1 = fun _ => 0 := if_pos rfl
    subst ecl
    refine ⟨_, by rw [← hR.1]; exact e1, rfl, by rw [e0]; rfl, fun _ => by rw [e0]; exact ⟨_, rfl⟩, fun j hj => ?_⟩
    rw [e0] at hj ⊢
    refine ⟨.int 0, ?_, ?_⟩
    · show (arrV _ N _).slots[am_pos G kd j]? = _
      unfold am_pos
      rw [if_neg (by omega), arrV_read _ _ hj, hdf]
    · unfold am_sl
      rw [e0, eh]
      refine ⟨fun z => ?_, fun _ => ⟨0, rfl, rfl⟩⟩
      have hkk : kd = 20 ∨ kd = 21 ∨ kd = 22 := by omega
      rcases hkk with rfl | rfl | rfl <;> cases z
  · show Value.ref H.size = va_rf (some (rho G t.1))
    rw [rho_lt hlim, ← hR.1]
    rfl
end ALO
