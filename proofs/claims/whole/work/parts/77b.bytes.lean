/-! rows of bytes and of truth -/
theorem Rp.arrB {t : Tp} {h : Mem} {G : GX} {H : Heap} {U : State} (hR : Rp G t h H) (hG : GW G U) {a N : Nat} (hk : t.2.1 a = (21, N)) : ∃ cell : Cell, H[rho G a]? = some cell ∧ cell.vm ≠ .unknown ∧ U.isArrayOf cell .byte ∧ cell.slots.size = N ∧ ∀ j : Nat, j < N → ∃ x : Int32, cell.slots[j]? = some (.int x) ∧ x.toInt = h a (j : Int) := by
  by_cases hs : a < 1000000
  · have ha := hR.lt2 hk (by omega) hs
    obtain ⟨cell, q1, q2, q3, q4, q5⟩ := hR.2.2.2.1 a ha
    rw [hk] at q4 q5
    obtain ⟨f, hf⟩ := q4 (show 20 ≤ 21 by decide)
    refine ⟨cell, by rw [hR.at ha]; exact q1, by rw [q2]; exact am_nu, ?_, arrV_of hf, fun j hj => ?_⟩
    · rw [hf]
      exact (hG.1.2 1 _ rfl).1 _ _
    · obtain ⟨v, q6, q7⟩ := q5 j hj
      obtain ⟨x, rfl, hx⟩ := q7.2 (by rw [hk]; rfl)
      exact ⟨x, q6, hx⟩
  · obtain ⟨e1, e2⟩ := hR.2.2.2.2.2 a (by omega)
    rcases hG.2.1 a (by omega) with h | ⟨cell, q1, q2, q3, q4, q5⟩
    · rw [← e2, hk] at h; cases h
    · rw [← e2, hk] at q3 q4 q5
      have hlt := (Array.getElem?_eq_some_iff.mp q1).1
      refine ⟨cell, ?_, q2, ?_, q3, fun j hj => ?_⟩
      · unfold rho
        rw [if_neg hs, hR.2.2.1 _ hlt]
        exact q1
      · rcases q4 with z | z
        · cases z.1
        · exact z.2
      · obtain ⟨x, q6, q7⟩ := q5 j hj
        refine ⟨x, q6, ?_⟩
        rw [q7, e1]
section AMB
variable {M : MI} {mc ms : Nat} {Q : Option AV → Tp → Mem → Prop} {pc : Nat} {ls ls' : List (Option AV)} {st : List AV} {t : Tp} {h : Mem} {ck sk : Nat}
theorem aw_baload {a N : Nat} {i : Int} (hd : decode M.2.1 pc = .ok (.baload, 1)) (hk : t.2.1 a = (21, N)) (h0 : 0 ≤ i) (h1 : i < (N : Int)) (k : AW M mc ms Q (pc + 1) ls (vI (h a i) :: st) t h ck sk) : AW M mc ms Q pc ls (vI i :: vR a :: st) t h ck sk := by
  intro G p l e R s m args below meth c H locs lsC stC C hR hL hS hq
  obtain ⟨y, r, rfl, rfl, hS1⟩ := SR.i hS
  obtain ⟨r, rfl, hS2⟩ := SR.r hS1
  have hG : GW G s := C.2.2.2.2.2.2.2.2.2.2.2.1
  obtain ⟨cell, q1, q2, q3, q4, q5⟩ := hR.arrB hG hk
  obtain ⟨x, q6, q7⟩ := q5 y.toInt.toNat (by omega)
  rw [am_nat h0] at q7
  exact W.bald C.1 C.2.1 q1 q3 q2 (by rw [q4]; exact am_in h0 h1) q6 rfl rfl hd (k G p l e R s m args below meth c H locs lsC _ C hR hL ⟨⟨_, rfl, q7⟩, hS2⟩ hq)
theorem aw_blen {a N : Nat} {n : Int} (hd : decode M.2.1 pc = .ok (.arraylength, 1)) (hk : t.2.1 a = (21, N)) (hN : (N : Int) = n) (hs : N < 2147483648) (k : AW M mc ms Q (pc + 1) ls (vI n :: st) t h ck sk) : AW M mc ms Q pc ls (vR a :: st) t h ck sk := by
  intro G p l e R s m args below meth c H locs lsC stC C hR hL hS hq
  obtain ⟨r, rfl, hS2⟩ := SR.r hS
  have hG : GW G s := C.2.2.2.2.2.2.2.2.2.2.2.1
  obtain ⟨cell, q1, q2, q3, q4, q5⟩ := hR.arrB hG hk
  refine W.alen C.1 C.2.1 q1 q3 rfl rfl rfl hd (k G p l e R s m args below meth c H locs lsC _ C hR hL ⟨⟨_, rfl, ?_⟩, hS2⟩ hq)
  rw [q4, ← hN]
  exact toInt_of rfl hs
theorem aw_zaload {a N : Nat} {i : Int} (hd : decode M.2.1 pc = .ok (.baload, 1)) (hk : t.2.1 a = (22, N)) (h0 : 0 ≤ i) (h1 : i < (N : Int)) (k : AW M mc ms Q (pc + 1) ls (vI (h a i) :: st) t h ck sk) : AW M mc ms Q pc ls (vI i :: vR a :: st) t h ck sk := by
  intro G p l e R s m args below meth c H locs lsC stC C hR hL hS hq
  obtain ⟨y, r, rfl, rfl, hS1⟩ := SR.i hS
  obtain ⟨r, rfl, hS2⟩ := SR.r hS1
  have hG : GW G s := C.2.2.2.2.2.2.2.2.2.2.2.1
  have ha2 := hR.lt hG.2.1 hk (by omega) (by omega) (by omega)
  obtain ⟨cell, q1, q2, q3, q4, q5⟩ := hR.2.2.2.1 a ha2
  rw [hk] at q3 q4 q5
  obtain ⟨f, hf⟩ := q4 (show 20 ≤ 22 by decide)
  have hsz := arrV_of hf
  obtain ⟨v, q6, q7⟩ := q5 y.toInt.toNat (show _ < N by omega)
  have epos : am_pos G 22 y.toInt.toNat = y.toInt.toNat := if_neg (by omega)
  rw [show am_pos G (22, N).1 y.toInt.toNat = _ from epos] at q6
  obtain ⟨x, rfl, hx⟩ := q7.2 (by rw [hk]; rfl)
  rw [am_nat h0] at hx
  exact W.zald C.1 C.2.1 (cell := cell) (by rw [hR.at ha2]; exact q1) (by rw [hf]; exact (hG.1.2 2 _ rfl).1 _ _) (by rw [q2]; exact am_nu) (by rw [hsz]; exact am_in h0 h1) q6 rfl rfl hd (k G p l e R s m args below meth c H locs lsC _ C hR hL ⟨⟨_, rfl, hx⟩, hS2⟩ hq)
/-- a store into an own row of kind kd, the stored number known -/
theorem am_store {G : GX} {H H' : Heap} {a N kd : Nat} {y w : Int32} {x : Int} {cell : Cell} (hR : Rp G t h H) (ha2 : a < t.1) (hk : t.2.1 a = (kd, N)) (hkd : kd = 21 ∨ kd = 22) (q2 : cell.vm = .none) (q3 : cell.cls = am_cls G kd) {f : Nat → Value} (hf : cell = arrV (am_cls G kd) N f) (q5 : ∀ j : Nat, j < N → ∃ v, cell.slots[am_pos G kd j]? = some v ∧ am_sl G t h a j v) (h0 : 0 ≤ y.toInt) (hw : w.toInt = x)
    (g1 : H'[G.1.size + a]? = some (cell.setSlot y.toNatClampNeg (.int w))) (g2 : H'.size = H.size) (g3 : ∀ q, q ≠ G.1.size + a → H'[q]? = H[q]?) : Rp G t (am_up h a y.toInt x) H' := by
  have hsz := arrV_of hf
  refine hR.upd ha2 rfl rfl (fun b hb => ⟨am_up_ne hb, rfl⟩) ⟨_, g1, q2, by rw [hk]; exact q3, fun _ => ?_, fun i hi => ?_⟩ g2 g3
  · rw [hk, hf, arrV_store]
    exact ⟨_, rfl⟩
  · rw [hk] at hi ⊢
    have e : am_pos G kd i = i := if_neg (by omega)
    show ∃ v, (cell.setSlot y.toNatClampNeg (.int w)).slots[am_pos G kd i]? = some v ∧ _
    rw [e]
    by_cases ei : y.toNatClampNeg = i
    · refine ⟨.int w, by rw [ei]; exact setSlot_self (by rw [hsz]; exact hi), ⟨fun hr => (by rw [hk] at hr; rcases hkd with rfl | rfl <;> cases hr), fun _ => ⟨w, rfl, ?_⟩⟩⟩
      rw [i32_clamp] at ei
      have : (i : Int) = y.toInt := by omega
      simp [am_up, this, hw]
    · obtain ⟨v, q6, q7⟩ := q5 i hi
      rw [e] at q6
      refine ⟨v, by rw [setSlot_ne ei]; exact q6, ?_⟩
      have : ¬ (i : Int) = y.toInt := by rw [i32_clamp] at ei; omega
      unfold am_sl at q7 ⊢
      simpa [am_up, this] using q7
theorem am_locs {G : GX} {H : Heap} {a : Nat} {locs : List Loc} {j : Nat} (hR : Rp G t h H) (ha2 : a < t.1) (hq : ∀ q ∈ locs, G.1.size ≤ q.base) : ∀ q ∈ locs ++ [⟨rho G a, j⟩], G.1.size ≤ q.base := by
  intro q hq3
  rcases List.mem_append.mp hq3 with h | h
  · exact hq q h
  · rw [List.mem_singleton.mp h]
    show G.1.size ≤ rho G a
    rw [hR.at ha2]
    omega
theorem aw_zastore {a N : Nat} {i x : Int} (hd : decode M.2.1 pc = .ok (.bastore, 1)) (hk : t.2.1 a = (22, N)) (h0 : 0 ≤ i) (h1 : i < (N : Int)) (x0 : 0 ≤ x) (x1 : x ≤ 1) (k : AW M mc ms Q (pc + 1) ls st t (am_up h a i x) ck sk) : AW M mc ms Q pc ls (vI x :: vI i :: vR a :: st) t h ck sk := by
  intro G p l e R s m args below meth c H locs lsC stC C hR hL hS hq
  obtain ⟨z, r, rfl, rfl, hS0⟩ := SR.i hS
  obtain ⟨y, r, rfl, rfl, hS1⟩ := SR.i hS0
  obtain ⟨r, rfl, hS2⟩ := SR.r hS1
  have hG : GW G s := C.2.2.2.2.2.2.2.2.2.2.2.1
  have ha2 := hR.lt hG.2.1 hk (by omega) (by omega) (by omega)
  obtain ⟨cell, q1, q2, q3, q4, q5⟩ := hR.2.2.2.1 a ha2
  rw [hk] at q3 q4 q5
  obtain ⟨f, hf⟩ := q4 (show 20 ≤ 22 by decide)
  have hsz := arrV_of hf
  have hz : (z &&& 1).toInt = z.toInt := by
    rcases (show z.toInt = 0 ∨ z.toInt = 1 by omega) with y | y
    · have : z = 0 := Int32.toInt_inj.mp (by rw [y]; rfl)
      subst this; rfl
    · have : z = 1 := Int32.toInt_inj.mp (by rw [y]; rfl)
      subst this; rfl
  refine W.zast C.1 C.2.1 (cell := cell) (by rw [hR.at ha2]; exact q1) (by rw [hf]; exact (hG.1.2 2 _ rfl).1 _ _) (by rw [q2]; exact am_nu) (by rw [hsz]; exact am_in h0 h1) rfl rfl hd (fun H' g1 g2 g3 => k G p l e R s m args below meth c H' _ lsC _ C ?_ hL hS2 (am_locs hR ha2 hq))
  rw [hR.at ha2] at g1 g3
  exact am_store hR ha2 hk (Or.inr rfl) q2 q3 hf q5 h0 hz g1 g2 g3
theorem aw_bastore {a N : Nat} {i x : Int} (hd : decode M.2.1 pc = .ok (.bastore, 1)) (hk : t.2.1 a = (21, N)) (ha : a < 1000000) (h0 : 0 ≤ i) (h1 : i < (N : Int)) (k : AW M mc ms Q (pc + 1) ls st t (am_up h a i (x.bmod 256)) ck sk) : AW M mc ms Q pc ls (vI x :: vI i :: vR a :: st) t h ck sk := by
  intro G p l e R s m args below meth c H locs lsC stC C hR hL hS hq
  obtain ⟨z, r, rfl, rfl, hS0⟩ := SR.i hS
  obtain ⟨y, r, rfl, rfl, hS1⟩ := SR.i hS0
  obtain ⟨r, rfl, hS2⟩ := SR.r hS1
  have hG : GW G s := C.2.2.2.2.2.2.2.2.2.2.2.1
  have ha2 := hR.lt2 hk (by omega) ha
  obtain ⟨cell, q1, q2, q3, q4, q5⟩ := hR.2.2.2.1 a ha2
  rw [hk] at q3 q4 q5
  obtain ⟨f, hf⟩ := q4 (show 20 ≤ 21 by decide)
  have hsz := arrV_of hf
  refine W.bast C.1 C.2.1 (cell := cell) (by rw [hR.at ha2]; exact q1) (by rw [hf]; exact (hG.1.2 1 _ rfl).1 _ _) (by rw [q2]; exact am_nu) (by rw [hsz]; exact am_in h0 h1) rfl rfl hd (fun H' g1 g2 g3 => k G p l e R s m args below meth c H' _ lsC _ C ?_ hL hS2 (am_locs hR ha2 hq))
  rw [hR.at ha2] at g1 g3
  exact am_store hR ha2 hk (Or.inl rfl) q2 q3 hf q5 h0 (by rw [Int8.toInt_toInt32, Int32.toInt_toInt8]) g1 g2 g3
end AMB
