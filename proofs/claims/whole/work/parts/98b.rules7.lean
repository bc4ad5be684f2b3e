/-! new rows of references; what is stored into them -/
theorem vr_out (c : ClassId) (N h0 : Nat) : ∀ i : Nat, Jvm.Free.Multi.outerC c N h0 i = arrV c N (fun j => va_rf (if j < i then some (h0 + 1 + j) else none))
  | 0 => by
    show ({ cls := c, slots := Array.replicate N .null, vm := .none } : Cell) = _
    rw [arrV_new]
    refine congrArg (arrV c N) (funext fun j => ?_)
    simp [va_rf]
  | i + 1 => by
    show (Jvm.Free.Multi.outerC c N h0 i).setSlot i (.ref (h0 + 1 + i)) = _
    rw [vr_out c N h0 i, arrV_store]
    refine congrArg (arrV c N) (funext fun j => ?_)
    by_cases e : j = i
    · subst e
      simp [updV, va_rf]
    · by_cases h : j < i
      · simp [updV, e, h, Nat.lt_succ_of_lt h]
      · simp [updV, e, h, show ¬ j < i + 1 by omega]
def mT (t : Tp) (N K : Nat) : Tp := (t.1 + 1 + N, fun b => if b = t.1 then (24, N) else if t.1 < b ∧ b ≤ t.1 + N then (20, K) else t.2.1 b, fun b j => if b = t.1 then (if 0 ≤ j ∧ j < (N : Int) then some (t.1 + 1 + j.toNat) else none) else if t.1 < b ∧ b ≤ t.1 + N then none else t.2.2 b j)
def mH (t : Tp) (N : Nat) (h : Mem) : Mem := fun b => if t.1 ≤ b ∧ b ≤ t.1 + N then (fun _ => 0) else h b
section AMV
variable {M M' : MI} {mc ms : Nat} {Q : Option AV → Tp → Mem → Prop} {pc : Nat} {ls ls' : List (Option AV)} {st : List AV} {t : Tp} {h : Mem} {ck sk mc' ms' : Nat} {Q' : Option AV → Tp → Mem → Prop}
theorem aw_anew {idx N : Nat} {x : Int} (hd : decode M.2.1 pc = .ok (.anewarray idx, 3)) (hw : Cond.classLink M.2.2.2.2.1 idx "RefsSettle$Sheet" ∈ WS) (hx : x = (N : Int)) (hN : N ≤ 100000) (hlim : t.1 < 1000000) (hc : ck + 1 ≤ mc) (hs : sk + N ≤ ms)
    (k : AW M mc ms Q (pc + 3) ls (vR t.1 :: st) (pT t 23 N) (pH t h) (ck + 1) (sk + N)) : AW M mc ms Q pc ls (vI x :: st) t h ck sk := by
  intro G p l e R s m args below meth c H locs lsC stC C hR hL hS hq
  obtain ⟨y, r, rfl, rfl, hS1⟩ := SR.i hS
  have hts := C.2.2.2.2.2.1
  have hG : GW G s := C.2.2.2.2.2.2.2.2.2.2.2.1
  have hX : XK s := hG.2.2.2.2.2.2.2
  obtain ⟨k1, k2, -, -, -, -, -, kf, kl, kc, ks, -⟩ := id C
  have hyn : y.toNatClampNeg = N := by rw [i32_clamp]; omega
  subst hyn
  refine W.anew C.1 C.2.1 C.2.2.2.2.1 (hts _ hw) (va_AO.use hX.2.1) rfl hd rfl (fun z => by have := am0_lt.mp z; omega) (by omega) (Nat.le_trans hc kc) (Nat.le_trans hs ks) fun cA kA comp e1 e2 e3 e4 => k G p l e R s m args below meth c _ locs lsC (.ref H.size :: r) C (hR.push hlim (by simp) (fun q hq2 => by simp [Array.getElem?_push, Nat.ne_of_lt hq2]) ?_) hL ⟨?_, hS1⟩ hq
  · have ecl : cA = am_cls G 23 := by
      obtain ⟨kA2, comp2, z1, z2, z3, z4⟩ := (hG.1.2 3 _ rfl).2
      exact Option.some.inj (e1.symm.trans z4)
    have e0 : (pT t 23 y.toNatClampNeg).2.1 t.1 = (23, y.toNatClampNeg) := if_pos rfl
    have er : (pT t 23 y.toNatClampNeg).2.2 t.1 = fun _ => none := by funext j; exact if_pos rfl
    subst ecl
    refine ⟨arrV (am_cls G 23) y.toNatClampNeg (fun _ => .null), ?_, rfl, by rw [e0]; rfl, fun _ => by rw [e0]; exact ⟨_, rfl⟩, fun j hj => ?_⟩
    · rw [← hR.1, ← arrV_new]; simp
    · rw [e0] at hj ⊢
      refine ⟨.null, ?_, ?_⟩
      · show (arrV _ _ _).slots[am_pos G 23 j]? = _
        unfold am_pos
        rw [if_neg (by omega), arrV_read _ _ hj]
      · unfold am_sl
        rw [e0, er]
        exact ⟨fun _ => rfl, fun z => by cases z⟩
  · show Value.ref H.size = va_rf (some (rho G t.1))
    rw [rho_lt hlim, ← hR.1]
    rfl
theorem aw_aastore {a b N Nb : Nat} {i : Int} (hd : decode M.2.1 pc = .ok (.aastore, 1)) (hk : t.2.1 a = (23, N)) (hkb : t.2.1 b = (8, Nb)) (h0 : 0 ≤ i) (h1 : i < (N : Int)) (k : AW M mc ms Q (pc + 1) ls st (t.1, t.2.1, am_upR t.2.2 a i (some b)) h ck sk) : AW M mc ms Q pc ls (vR b :: vI i :: vR a :: st) t h ck sk := by
  intro G p l e R s m args below meth c H locs lsC stC C hR hL hS hq
  obtain ⟨r, rfl, hS0⟩ := SR.r hS
  obtain ⟨y, r, rfl, rfl, hS1⟩ := SR.i hS0
  obtain ⟨r, rfl, hS2⟩ := SR.r hS1
  have hG : GW G s := C.2.2.2.2.2.2.2.2.2.2.2.1
  have ha2 := hR.lt hG.2.1 hk (by omega) (by omega) (by omega)
  have hb2 := hR.lt hG.2.1 hkb (by omega) (by omega) (by omega)
  obtain ⟨cell, q1, q2, q3, q4, q5⟩ := hR.2.2.2.1 a ha2
  obtain ⟨cellb, b1, b2, b3, b4, b5⟩ := hR.2.2.2.1 b hb2
  rw [hk] at q3 q4 q5
  rw [hkb] at b3
  obtain ⟨f, hf⟩ := q4 (show 20 ≤ 23 by decide)
  have hsz := arrV_of hf
  obtain ⟨kA, comp, z1, z2, z3, z4⟩ := (hG.1.2 3 _ rfl).2
  have hcls := (hG.1.1 8 _ rfl).2
  have hcomp : comp = G.2.1.1 8 := Option.some.inj (z3.symm.trans hcls.1)
  subst hcomp
  obtain ⟨kC, hkC, -⟩ := hcls.2
  have eb : cellb.cls = G.2.1.1 8 := b3
  have ea : cell.cls = G.2.2.1 23 := q3
  refine W.aast C.1 C.2.1 (cell := cell) (cv := cellb) (by rw [hR.at ha2]; exact q1) (fun q z => by rw [q2] at z; cases z) (by rw [q2]; exact am_nu) (by rw [ea]; exact z1) z2 rfl hkC ⟨fun z => by have := am0_lt.mp z; omega, by rw [hsz, i32_clamp]; show _ < N; omega⟩ (by rw [hR.at hb2]; exact b1) (fun q z => by rw [b2] at z; cases z) (by rw [eb]; exact hkC) (by rw [eb]; exact va_assign hcls) rfl rfl hd (fun H' g1 g2 g3 => k G p l e R s m args below meth c H' _ lsC _ C ?_ hL hS2 (am_locs hR ha2 hq))
  rw [hR.at ha2] at g1 g3
  refine hR.upd ha2 rfl rfl (fun b hb => ⟨rfl, am_upR_ne hb⟩) ⟨_, g1, q2, by show _ = am_cls G (t.2.1 a).1; rw [hk]; exact q3, fun _ => ?_, fun i hi => ?_⟩ g2 g3
  · show ∃ f, _ = arrV (am_cls G (t.2.1 a).1) (t.2.1 a).2 f
    rw [hk, hf, arrV_store]
    exact ⟨_, rfl⟩
  · have hi' : i < N := by
      have : i < (t.2.1 a).2 := hi
      rw [hk] at this
      exact this
    have e : am_pos G 23 i = i := if_neg (by decide)
    show ∃ v, (cell.setSlot y.toNatClampNeg (.ref (rho G b))).slots[am_pos G (t.2.1 a).1 i]? = some v ∧ _
    rw [hk]
    show ∃ v, (cell.setSlot y.toNatClampNeg (.ref (rho G b))).slots[am_pos G 23 i]? = some v ∧ _
    rw [e]
    by_cases ei : y.toNatClampNeg = i
    · refine ⟨.ref (rho G b), by rw [ei]; exact setSlot_self (by rw [hsz]; exact hi'), ⟨fun hr => ?_, fun hr => ?_⟩⟩
      · rw [i32_clamp] at ei
        have : (i : Int) = y.toInt := by omega
        simp [am_upR, this, va_rf]
      · change am_isR (t.2.1 a).1 i = false at hr
        rw [hk] at hr
        cases hr
    · obtain ⟨v, q6, q7⟩ := q5 i hi'
      rw [show am_pos G (23, N).1 i = i from e] at q6
      refine ⟨v, by rw [setSlot_ne ei]; exact q6, ?_⟩
      have : ¬ (i : Int) = y.toInt := by rw [i32_clamp] at ei; omega
      unfold am_sl at q7 ⊢
      simpa [am_upR, this] using q7
theorem aw_mna {idx N K : Nat} {x z : Int} (hd : decode M.2.1 pc = .ok (.multianewarray idx 2, 4)) (hw : Cond.classLink M.2.2.2.2.1 idx "[[I" ∈ WS) (hw2 : Cond.arrayClass .int ∈ WS) (hx : x = (N : Int)) (hz : z = (K : Int)) (hN : N ≤ 10000) (hK : K ≤ 10000) (hlim : t.1 + 1 + N ≤ 1000000) (hc : ck + 1 + N ≤ mc) (hs : sk + N + N * K ≤ ms)
    (k : AW M mc ms Q (pc + 4) ls (vR t.1 :: st) (mT t N K) (mH t N h) (ck + 1 + N) (sk + N + N * K)) : AW M mc ms Q pc ls (vI z :: vI x :: st) t h ck sk := by
  intro G p l e R s m args below meth c H locs lsC stC C hR hL hS hq
  obtain ⟨y2, r, rfl, rfl, hS0⟩ := SR.i hS
  obtain ⟨y, r, rfl, rfl, hS1⟩ := SR.i hS0
  have hts := C.2.2.2.2.2.1
  have hG : GW G s := C.2.2.2.2.2.2.2.2.2.2.2.1
  have hX : XK s := hG.2.2.2.2.2.2.2
  obtain ⟨k1, k2, -, -, -, -, -, kf, kl, kc, ks, -⟩ := id C
  have hyn : y.toNatClampNeg = N := by rw [i32_clamp]; omega
  have hyk : y2.toNatClampNeg = K := by rw [i32_clamp]; omega
  subst hyn
  subst hyk
  intro T hT Xs
  obtain ⟨vm₁, cA, comp, -, fA, fC, hO, -, X', step⟩ := Xs.multianewarray2F (ty := .int) C.1 C.2.2.2.2.1 (hts _ hw) hX.2.2 (hts _ hw2) (g := F0 m pc lsC (.int y2 :: .int y :: r)) rfl (by rw [C.2.1]; exact hd) rfl (fun z => by have := am0_lt.mp z; omega) (fun z => by have := am0_lt.mp z; omega) (by omega) (by show y2.toNatClampNeg * 4 ≤ _; omega) (by omega) rfl rfl (by omega) (by omega)
  generalize hF : Jvm.Free.Multi.fill (T.setVm vm₁) cA comp y.toNatClampNeg y2.toNatClampNeg (defaultValue .int) y.toNatClampNeg = F at X' step
  have hTh : (T.setVm vm₁).heap = H := hT
  obtain ⟨f1, f2, -, -⟩ := Jvm.Free.Multi.fill_facts (T.setVm vm₁) cA comp y.toNatClampNeg y2.toNatClampNeg (defaultValue .int) y.toNatClampNeg
  rw [hF, hTh] at f1 f2
  have hold : ∀ x : Nat, x < H.size → F.heap[x]? = H[x]? := fun x hx => by
    have := Jvm.Free.Multi.fill_old (T.setVm vm₁) cA comp y.toNatClampNeg y2.toNatClampNeg (defaultValue .int) (a := x) (by rw [hTh]; exact hx) y.toNatClampNeg
    rw [hF, hTh] at this
    exact this
  have hrow : ∀ j : Nat, j < y.toNatClampNeg → F.heap[H.size + 1 + j]? = some (arrV comp y2.toNatClampNeg (fun _ => .int 0)) := fun j hj => by
    have := Jvm.Free.Multi.fill_inner (T.setVm vm₁) cA comp y.toNatClampNeg y2.toNatClampNeg (defaultValue .int) y.toNatClampNeg j hj
    rw [hF, hTh] at this
    rw [this]
    exact congrArg some (arrV_new _ _ _)
  have ecA : cA = G.2.2.1 24 := by
    have z4 : s.vm.findClass ("[" ++ (FieldType.array .int).toString) = some (G.2.2.1 24) := (hG.1.2 4 _ rfl).2
    exact Option.some.inj (fA.symm.trans z4)
  have ecC : comp = G.2.2.1 20 := by
    have z4 : s.vm.findClass ("[" ++ (FieldType.int).toString) = some (G.2.2.1 20) := (hG.1.2 0 _ rfl).2
    exact Option.some.inj (fC.symm.trans z4)
  subst ecA
  subst ecC
  rw [vr_out] at f2
  have hh := hR.1
  obtain ⟨r1, r2, r3, r4, r5, r6⟩ := hR
  have hRp : Rp G (mT t y.toNatClampNeg y2.toNatClampNeg) (mH t y.toNatClampNeg h) F.heap := by
    refine ⟨by rw [f1, r1]; show _ = G.1.size + (t.1 + 1 + y.toNatClampNeg); omega, hlim, fun q hq2 => by rw [hold q (by omega)]; exact r3 q hq2, fun b hb => ?_, fun b h1 h2 => ?_, fun b hb => ?_⟩
    · have hb2 : b < t.1 + 1 + y.toNatClampNeg := hb
      by_cases y1 : b = t.1
      · subst y1
        have e0 : (mT t y.toNatClampNeg y2.toNatClampNeg).2.1 t.1 = (24, y.toNatClampNeg) := if_pos rfl
        have er : ∀ j : Int, (mT t y.toNatClampNeg y2.toNatClampNeg).2.2 t.1 j = if 0 ≤ j ∧ j < (y.toNatClampNeg : Int) then some (t.1 + 1 + j.toNat) else none := fun j => if_pos rfl
        refine ⟨_, by rw [← r1]; exact f2, rfl, by rw [e0]; rfl, fun _ => by rw [e0]; exact ⟨_, rfl⟩, fun j hj => ?_⟩
        rw [e0] at hj ⊢
        have hj2 : j < y.toNatClampNeg := hj
        refine ⟨va_rf (if j < y.toNatClampNeg then some (H.size + 1 + j) else none), ?_, ?_⟩
        · show (arrV _ _ _).slots[am_pos G 24 j]? = _
          unfold am_pos
          rw [if_neg (by omega), arrV_read _ _ hj]
        · unfold am_sl
          rw [e0, er]
          refine ⟨fun _ => ?_, fun z => by cases z⟩
          rw [if_pos hj2, if_pos ⟨by omega, by omega⟩]
          show va_rf (some (H.size + 1 + j)) = va_rf (some (rho G (t.1 + 1 + (j : Int).toNat)))
          rw [rho_lt (by omega), Int.toNat_natCast, r1]
          congr 2
          omega
      · by_cases y3 : t.1 < b
        · have e0 : (mT t y.toNatClampNeg y2.toNatClampNeg).2.1 b = (20, y2.toNatClampNeg) := (if_neg y1).trans (if_pos ⟨y3, by omega⟩)
          have em : mH t y.toNatClampNeg h b = fun _ => 0 := if_pos ⟨by omega, by omega⟩
          have hb3 := hrow (b - t.1 - 1) (by omega)
          rw [show H.size + 1 + (b - t.1 - 1) = G.1.size + b by omega] at hb3
          refine ⟨_, hb3, rfl, by rw [e0]; rfl, fun _ => by rw [e0]; exact ⟨_, rfl⟩, fun j hj => ?_⟩
          rw [e0] at hj ⊢
          refine ⟨.int 0, ?_, ?_⟩
          · show (arrV _ _ _).slots[am_pos G 20 j]? = _
            unfold am_pos
            rw [if_neg (by omega), arrV_read _ _ hj]
          · unfold am_sl
            rw [e0, em]
            exact ⟨fun z => (by cases z), fun _ => ⟨0, rfl, rfl⟩⟩
        · obtain ⟨cell, q1, q2, q3, q4, q5⟩ := r4 b (by omega)
          have e0 : (mT t y.toNatClampNeg y2.toNatClampNeg).2.1 b = t.2.1 b := (if_neg y1).trans (if_neg (fun z => y3 z.1))
          have er : (mT t y.toNatClampNeg y2.toNatClampNeg).2.2 b = t.2.2 b := by funext j; exact (if_neg y1).trans (if_neg (fun z => y3 z.1))
          have em : mH t y.toNatClampNeg h b = h b := if_neg (by omega)
          refine ⟨cell, by rw [hold _ (by omega)]; exact q1, q2, by rw [e0]; exact q3, by rw [e0]; exact q4, fun j hj => ?_⟩
          rw [e0] at hj ⊢
          obtain ⟨v, q6, q7⟩ := q5 j hj
          refine ⟨v, q6, ?_⟩
          unfold am_sl at q7 ⊢
          rw [e0, er, em]
          exact q7
    · have h1' : t.1 + 1 + y.toNatClampNeg ≤ b := h1
      show (if b = t.1 then ((24, y.toNatClampNeg) : Nat × Nat) else if t.1 < b ∧ b ≤ t.1 + y.toNatClampNeg then (20, y2.toNatClampNeg) else t.2.1 b).1 = 99
      rw [if_neg (by omega), if_neg (by omega)]
      exact r5 b (by omega) h2
    · refine ⟨?_, ?_⟩
      · show (if t.1 ≤ b ∧ b ≤ t.1 + y.toNatClampNeg then (fun _ => 0) else h b) = _
        rw [if_neg (by omega)]
        exact (r6 b hb).1
      · show (if b = t.1 then ((24, y.toNatClampNeg) : Nat × Nat) else if t.1 < b ∧ b ≤ t.1 + y.toNatClampNeg then (20, y2.toNatClampNeg) else t.2.1 b) = _
        rw [if_neg (by omega), if_neg (by omega)]
        exact (r6 b hb).2
  obtain ⟨t3, a1, b1⟩ := k G p l e R s m args below meth c F.heap locs lsC (.ref H.size :: r) C hRp hL ⟨by show Value.ref H.size = va_rf (some (rho G t.1)); rw [rho_lt (by omega), ← hh]; rfl, hS1⟩ hq F rfl X'
  refine ⟨t3, step t3 ?_, b1⟩
  rw [hT]
  exact a1
end AMV
