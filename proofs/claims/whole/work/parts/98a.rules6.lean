/-! calls up, inherited ones, nest constructors, new rows of references -/
def UL (own : String) (idx : Nat) (M' : MI) (ci n : Nat) : Prop := Cond.methodLink own idx M'.1 ∈ WS ∧ Cond.sameMethod M'.1.cls M'.1.cls M'.1.name M'.1.desc ∈ WS ∧ Cond.superclass own M'.1.cls ∈ WS ∧ Cond.instanceMethod M'.1 ∈ WS ∧ Cond.initialized M'.1.cls ∈ WS ∧ Cond.code M'.1 M'.2.1 M'.2.2.1 M'.2.2.2.1 ∈ WS ∧ (M'.1.name ≠ "<init>" ∧ (parseMethodDescriptor M'.1.desc).map (fun d => d.parameters.length) = some n) ∧ ci < 20 ∧ ∃ C T N, vwCl[ci]? = some (C, T, N)
def UV (own : String) (idx : Nat) (M' : MI) (ci n : Nat) : Prop := ∃ C T N, vwCl[ci]? = some (C, T, N) ∧ ci < 20 ∧ Cond.methodLink own idx M'.1 ∈ WS ∧ Cond.sameMethod M'.1.cls M'.1.cls M'.1.name M'.1.desc ∈ WS ∧ Cond.selects C M'.1 M'.1 ∈ WS ∧ Cond.instanceMethod M'.1 ∈ WS ∧ Cond.initialized M'.1.cls ∈ WS ∧ Cond.code M'.1 M'.2.1 M'.2.2.1 M'.2.2.2.1 ∈ WS ∧ am_plain M'.1 n
def NI (own : String) (idx : Nat) (M' : MI) (n : Nat) : Prop := Cond.methodLinkNest own idx M'.1 "RefsSettle" ∈ nlw ∧ Cond.instanceMethod M'.1 ∈ WS ∧ M'.1.name = "<init>" ∧ M'.2.2.2.1 = none ∧ Cond.initialized M'.1.cls ∈ WS ∧ Cond.code M'.1 M'.2.1 M'.2.2.1 M'.2.2.2.1 ∈ WS ∧ am_plain M'.1 n
theorem good_in {ws : List Cond} (h : ∀ w ∈ ws, w ∈ WS) : GoodIn WS ws := fun w hw => ⟨h w hw, good_of_word (List.mem_filter.mp (h w hw)).2⟩
section AMU
variable {M M' : MI} {mc ms : Nat} {Q : Option AV → Tp → Mem → Prop} {pc : Nat} {ls ls' : List (Option AV)} {st : List AV} {t : Tp} {h : Mem} {ck sk mc' ms' : Nat} {Q' : Option AV → Tp → Mem → Prop}
theorem aw_callSU {idx ci N n a : Nat} {as st0 : List AV} (hd : decode M.2.1 pc = .ok (.invokespecial idx, 3)) (hl : UL M.2.2.2.2.1 idx M' ci n) (hS' : Sem M' (vR a :: as) t h mc' ms' Q') (hk : t.2.1 a = (ci, N)) (hst : as.reverse ++ vR a :: st = st0) (hn : as.length = n) (hw : am_w st ≤ 8)
    (hF : M'.2.2.2.2.2.1 + 1 ≤ M.2.2.2.2.2.1) (hLo : 8 + (M'.2.2.1 + 11) + M'.2.2.2.2.2.2 ≤ M.2.2.2.2.2.2) (hc : ck + mc' ≤ mc) (hs : sk + ms' ≤ ms)
    (k : ∀ v t' h', Q' v t' h' → AW M mc ms Q (pc + 3) ls (v.toList ++ st) t' h' (ck + mc') (sk + ms')) : AW M mc ms Q pc ls st0 t h ck sk := by
  intro G p l e R s m args below meth c H locs lsC stC C hR hL hS hq
  subst hst
  obtain ⟨ys, zs, rfl, g1, g2⟩ := SR.split hS
  obtain ⟨r, rfl, g3⟩ := SR.r g2
  obtain ⟨l1, l2, l3, l4, l5, l6, l7, l8, CC, T0, N0, l9⟩ := hl
  have hts := C.2.2.2.2.2.1
  have hG : GW G s := C.2.2.2.2.2.2.2.2.2.2.2.1
  have g4 : SR G as ys.reverse := by have := SR.rev g1; rwa [List.reverse_reverse] at this
  have ha := hR.lt hG.2.1 hk (by omega) (by omega) (by omega)
  obtain ⟨cell, q1, q2, q3, -⟩ := hR.2.2.2.1 a ha
  rw [hk] at q3
  obtain ⟨-, hfc, kC, hkC, hkind⟩ := hG.1.1 ci _ l9
  obtain ⟨k1, k2, -, -, -, -, -, kf, kl, kc, ks, -⟩ := id C
  refine am_after (a := (Value.ref (rho G a) :: ys.reverse).toArray) (st0 := ys ++ .ref (rho G a) :: r) (rest := r) C hL g3 hq (va_runSU (As := ys.reverse) (C := CC) (cC := G.2.1.1 ci) (n := n) ⟨hfc, kC, hkC, hkind⟩ ⟨C.1, C.2.1, C.2.2.2.1, C.2.2.2.2.1, hts⟩ (hS' l G) (va_cwSU n hts (good_in (fun w hw2 => ?_)) rfl rfl rfl l7 ⟨Nat.le_trans hF kf, Nat.le_trans hLo kl⟩) ⟨PP.blind, ⟨cell, by rw [hR.at ha]; exact q1, by rw [q2]; rfl, by rw [q3]; show _ = some (am_cls G ci); unfold am_cls; rw [if_pos l8]; exact hfc⟩, fun U hU hW => ⟨⟨rfl, g4⟩, by rw [hU]; exact hR, hG.moved hW.alike (XK.warm hW)⟩⟩ rfl (by rw [← hn, SR.len g4]) hL.1 (by rw [List.reverse_reverse]) (by rw [am_w_eq g3]; show 2 * 0 + _ ≤ 8; omega) hd ⟨Nat.le_trans hc kc, Nat.le_trans hs ks⟩) k
  unfold va_wsSU at hw2
  simp only [List.mem_append, List.mem_cons, List.mem_nil_iff, or_false] at hw2
  rcases hw2 with (rfl | rfl | rfl | rfl | rfl) | rfl | z
  · exact l1
  · exact l2
  · exact l3
  · exact l4
  · exact l5
  · exact l6
  · exact z
theorem aw_callU {idx ci N n a : Nat} {as st0 : List AV} (hd : decode M.2.1 pc = .ok (.invokevirtual idx, 3)) (hl : UV M.2.2.2.2.1 idx M' ci n) (hS' : Sem M' (vR a :: as) t h mc' ms' Q') (hk : t.2.1 a = (ci, N)) (hst : as.reverse ++ vR a :: st = st0) (hn : as.length = n) (hw : am_w st ≤ 8)
    (hF : M'.2.2.2.2.2.1 + 1 ≤ M.2.2.2.2.2.1) (hLo : 8 + (M'.2.2.1 + 11) + M'.2.2.2.2.2.2 ≤ M.2.2.2.2.2.2) (hc : ck + mc' ≤ mc) (hs : sk + ms' ≤ ms)
    (k : ∀ v t' h', Q' v t' h' → AW M mc ms Q (pc + 3) ls (v.toList ++ st) t' h' (ck + mc') (sk + ms')) : AW M mc ms Q pc ls st0 t h ck sk := by
  intro G p l e R s m args below meth c H locs lsC stC C hR hL hS hq
  subst hst
  obtain ⟨ys, zs, rfl, g1, g2⟩ := SR.split hS
  obtain ⟨r, rfl, g3⟩ := SR.r g2
  obtain ⟨CC, T0, N0, l9, l8, l1, l2, l3, l4, l5, l6, l7⟩ := hl
  have hts := C.2.2.2.2.2.1
  have hG : GW G s := C.2.2.2.2.2.2.2.2.2.2.2.1
  have g4 : SR G as ys.reverse := by have := SR.rev g1; rwa [List.reverse_reverse] at this
  have ha := hR.lt hG.2.1 hk (by omega) (by omega) (by omega)
  obtain ⟨cell, q1, q2, q3, -⟩ := hR.2.2.2.1 a ha
  rw [hk] at q3
  obtain ⟨-, hfc, kC, hkC, hkind⟩ := hG.1.1 ci _ l9
  obtain ⟨k1, k2, -, -, -, -, -, kf, kl, kc, ks, -⟩ := id C
  refine am_after (a := (Value.ref (rho G a) :: ys.reverse).toArray) (st0 := ys ++ .ref (rho G a) :: r) (rest := r) C hL g3 hq (va_runU (As := ys.reverse) (C := CC) (owner := M'.1.cls) (x := M'.1) (n := n) ⟨C.1, C.2.1, C.2.2.2.1, C.2.2.2.2.1, hts⟩ (hS' l G) (va_cwU n hts (good_in (fun w hw2 => ?_)) rfl rfl rfl rfl l7 ⟨Nat.le_trans hF kf, Nat.le_trans hLo kl⟩) ⟨PP.blind, ⟨cell, by rw [hR.at ha]; exact q1, by rw [q2]; rfl, by rw [q3]; show _ = some (am_cls G ci); unfold am_cls; rw [if_pos l8]; exact hfc⟩, fun U hU hW => ⟨⟨rfl, g4⟩, by rw [hU]; exact hR, hG.moved hW.alike (XK.warm hW)⟩⟩ rfl (by rw [← hn, SR.len g4]) hL.1 (by rw [List.reverse_reverse]) (by rw [am_w_eq g3]; show 2 * 0 + _ ≤ 8; omega) hd ⟨Nat.le_trans hc kc, Nat.le_trans hs ks⟩) k
  unfold va_wsU at hw2
  simp only [List.mem_append, List.mem_cons, List.mem_nil_iff, or_false] at hw2
  rcases hw2 with (rfl | rfl | rfl | rfl | rfl) | rfl | z
  · exact l1
  · exact l2
  · exact l3
  · exact l4
  · exact l5
  · exact l6
  · exact z
theorem aw_callIN {idx n a : Nat} {as st0 : List AV} (hd : decode M.2.1 pc = .ok (.invokespecial idx, 3)) (hl : NI M.2.2.2.2.1 idx M' n) (hS' : Sem M' (vR a :: as) t h mc' ms' Q') (hst : as.reverse ++ vR a :: st = st0) (hn : as.length = n) (hw : am_w st ≤ 8)
    (hF : M'.2.2.2.2.2.1 + 1 ≤ M.2.2.2.2.2.1) (hLo : 8 + (M'.2.2.1 + 11) + M'.2.2.2.2.2.2 ≤ M.2.2.2.2.2.2) (hc : ck + mc' ≤ mc) (hs : sk + ms' ≤ ms)
    (k : ∀ v t' h', Q' v t' h' → AW M mc ms Q (pc + 3) ls (v.toList ++ st) t' h' (ck + mc') (sk + ms')) : AW M mc ms Q pc ls st0 t h ck sk := by
  intro G p l e R s m args below meth c H locs lsC stC C hR hL hS hq
  subst hst
  obtain ⟨ys, zs, rfl, g1, g2⟩ := SR.split hS
  obtain ⟨r, rfl, g3⟩ := SR.r g2
  obtain ⟨l1, l2, l3, l7, l4, l5, l6⟩ := hl
  have hts := C.2.2.2.2.2.1
  have hG : GW G s := C.2.2.2.2.2.2.2.2.2.2.2.1
  have hX : XK s := hG.2.2.2.2.2.2.2
  have g4 : SR G as ys.reverse := by have := SR.rev g1; rwa [List.reverse_reverse] at this
  obtain ⟨k1, k2, -, -, -, -, -, kf, kl, kc, ks, -⟩ := id C
  refine am_after (a := (Value.ref (rho G a) :: ys.reverse).toArray) (st0 := ys ++ .ref (rho G a) :: r) (rest := r) C hL g3 hq (va_runIN (As := ys.reverse) (n := n) ⟨C.1, C.2.1, C.2.2.2.1, C.2.2.2.2.1, hts⟩ (hS' l G) ⟨by have := va_cnB (R := R) (own := M.2.2.2.2.1) (index := idx) n hts (WS_good l5) rfl (rm := { frames := M'.2.2.2.2.2.1, cells := mc', slots := ms', locals := M'.2.2.2.2.2.2 }) rfl rfl (hX.1 _ l1) (hts _ l4) l6 ⟨Nat.le_trans hF kf, Nat.le_trans hLo kl⟩; rw [l7] at this ⊢; exact this, l3, hts _ l2⟩ ⟨PP.blind, fun U hU hW => ⟨⟨rfl, g4⟩, by rw [hU]; exact hR, hG.moved hW.alike (XK.warm hW)⟩⟩ rfl (by rw [← hn, SR.len g4]) hL.1 (by rw [List.reverse_reverse]) (by rw [am_w_eq g3]; show 2 * 0 + _ ≤ 8; omega) hd ⟨Nat.le_trans hc kc, Nat.le_trans hs ks⟩) k
theorem aw_objInit {idx a : Nat} (hd : decode M.2.1 pc = .ok (.invokespecial idx, 3)) (hl : Cond.methodLink M.2.2.2.2.1 idx Lib.objectInit ∈ WS ∧ Cond.instanceMethod Lib.objectInit ∈ WS ∧ Cond.code Lib.objectInit ⟨#[0xb1]⟩ 1 none ∈ WS) (hF : 1 ≤ M.2.2.2.2.2.1) (hLo : am_w st + 12 ≤ M.2.2.2.2.2.2) (k : AW M mc ms Q (pc + 3) ls st t h ck sk) : AW M mc ms Q pc ls (vR a :: st) t h ck sk := by
  intro G p l e R s m args below meth c H locs lsC stC C hR hL hS hq
  obtain ⟨r, rfl, hS1⟩ := SR.r hS
  have hts := C.2.2.2.2.2.1
  obtain ⟨k1, k2, -, -, -, -, -, kf, kl, kc, ks, -⟩ := id C
  refine W.objInit C.1 C.2.1 C.2.2.2.2.1 (hts _ hl.1) (hts _ hl.2.1) (hts _ hl.2.2) rfl (hL.1.trans C.2.2.2.1.symm) rfl hd (Nat.le_trans hF kf) ?_ (k G p l e R s m args below meth c H locs lsC r C hR hL hS1 hq)
  rw [am_w_eq hS1]
  show 2 * 0 + am_w st + 12 ≤ R.locals
  omega
theorem aw_putB0 {idx ci N a : Nat} {j : Int} (hd : decode M.2.1 pc = .ok (.putfield idx, 3)) (hl : FP false false .byte M.2.2.2.2.1 idx ci j N) (hk : t.2.1 a = (ci, N)) (k : AW M mc ms Q (pc + 3) ls st t (am_up h a j 0) ck sk) : AW M mc ms Q pc ls (vI 0 :: vR a :: st) t h ck sk := by
  intro G p l e R s m args below meth c H locs lsC stC C hR hL hS hq
  obtain ⟨y, r, rfl, hy, hS1⟩ := SR.i hS
  obtain ⟨r, rfl, hS2⟩ := SR.r hS1
  have hy0 : y = 0 := Int32.toInt_inj.mp (by rw [hy]; rfl)
  subst hy0
  refine am_put C hR hd hl (fun z => by cases z) hk rfl rfl (t' := t) (h' := am_up h a j 0) rfl rfl (fun b hb => ⟨am_up_ne hb, rfl⟩) (fun i hi => ⟨by simp [am_up, hi], rfl⟩) (fun i hi hr => ?_) hq (fun H' locs' g1 g2 => k G p l e R s m args below meth c H' locs' lsC _ C g1 hL hS2 g2)
  refine ⟨fun z => ?_, fun _ => ⟨0, rfl, by simp [am_up, hi]⟩⟩
  rw [hk, hr] at z
  cases z
theorem aw_i2c {x : Int} (hd : decode M.2.1 pc = .ok (.i2c, 1)) (h0 : 0 ≤ x) (h1 : x ≤ 65535) (k : AW M mc ms Q (pc + 1) ls (vI x :: st) t h ck sk) : AW M mc ms Q pc ls (vI x :: st) t h ck sk := by
  intro G p l e R s m args below meth c H locs lsC stC C hR hL hS hq
  obtain ⟨a, r, rfl, rfl, hS1⟩ := SR.i hS
  refine lv_i2c C.1 C.2.1 hd rfl (k G p l e R s m args below meth c H locs lsC _ C hR hL ⟨⟨_, rfl, ?_⟩, hS1⟩ hq)
  have en : a.toBitVec.toInt = a.toInt := rfl
  have ec := BitVec.toInt_eq_toNat_cond a.toBitVec
  have lt := a.toBitVec.isLt
  have e2 : (a.toUInt32.toNat : Int) = a.toInt := by
    show (a.toBitVec.toNat : Int) = a.toInt
    rw [en] at ec
    split at ec <;> omega
  have e3 : a.toUInt32 % 65536 = a.toUInt32 := by
    apply UInt32.toNat_inj.mp
    rw [UInt32.toNat_mod]
    show a.toUInt32.toNat % 65536 = a.toUInt32.toNat
    omega
  rw [e3]
  rfl
end AMU
