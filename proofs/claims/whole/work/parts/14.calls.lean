def am_ent : List AV → List (Option AV)
  | [] => []
  | .inl (true, i) :: vs => some (.inl (true, i)) :: none :: am_ent vs
  | .inl (false, i) :: vs => some (.inl (false, i)) :: am_ent vs
  | .inr r :: vs => some (.inr r) :: am_ent vs
def am_loc (n : Nat) (as : List AV) : List (Option AV) := am_ent as ++ List.replicate (n - (am_ent as).length) none
theorem am_ent_at {G : GX} : ∀ {as : List AV} {vs : List Value}, SR G as vs → (lg_sl vs).length = (am_ent as).length ∧ ∀ (i : Nat) (v : AV), (am_ent as)[i]? = some (some v) → ∃ c, (lg_sl vs)[i]? = some (.val c) ∧ cvr G v c
  | [], vs, h => by
    cases SR.nil h
    exact ⟨rfl, fun i v hi => by simp [am_ent] at hi⟩
  | .inl (true, i0) :: as, vs, h => by
    obtain ⟨y, r, rfl, e, h2⟩ := SR.l h
    obtain ⟨g1, g2⟩ := am_ent_at h2
    have e0 : lg_sl (.long y :: r) = .val (.long y) :: .second :: lg_sl r := rfl
    refine ⟨by rw [e0]; simp [am_ent, g1], fun i v hi => ?_⟩
    rw [e0]
    match i, hi with
    | 0, hi => cases hi; exact ⟨_, rfl, y, rfl, e⟩
    | 1, hi => cases hi
    | i + 2, hi => exact g2 i v hi
  | .inl (false, i0) :: as, vs, h => by
    obtain ⟨y, r, rfl, e, h2⟩ := SR.i h
    obtain ⟨g1, g2⟩ := am_ent_at h2
    have e0 : lg_sl (.int y :: r) = .val (.int y) :: lg_sl r := rfl
    refine ⟨by rw [e0]; simp [am_ent, g1], fun i v hi => ?_⟩
    rw [e0]
    match i, hi with
    | 0, hi => cases hi; exact ⟨_, rfl, y, rfl, e⟩
    | i + 1, hi => exact g2 i v hi
  | .inr none :: as, vs, h => by
    obtain ⟨r, rfl, h2⟩ := SR.q h
    obtain ⟨g1, g2⟩ := am_ent_at h2
    have e0 : lg_sl (.null :: r) = .val .null :: lg_sl r := rfl
    refine ⟨by show (lg_sl (.null :: r)).length = _; rw [e0]; simp [am_ent, g1], fun i v hi => ?_⟩
    show ∃ c, (lg_sl (.null :: r))[i]? = _ ∧ _
    rw [e0]
    match i, hi with
    | 0, hi => cases hi; exact ⟨_, rfl, rfl⟩
    | i + 1, hi => exact g2 i v hi
  | .inr (some a) :: as, vs, h => by
    obtain ⟨r, rfl, h2⟩ := SR.r h
    obtain ⟨g1, g2⟩ := am_ent_at h2
    have e0 : lg_sl (.ref (rho G a) :: r) = .val (.ref (rho G a)) :: lg_sl r := rfl
    refine ⟨by rw [e0]; simp [am_ent, g1], fun i v hi => ?_⟩
    rw [e0]
    match i, hi with
    | 0, hi => cases hi; exact ⟨_, rfl, rfl⟩
    | i + 1, hi => exact g2 i v hi
theorem LR.entry {G : GX} {as : List AV} {vs : List Value} {n : Nat} (h : SR G as vs) (hn : (am_ent as).length ≤ n) : LR G n (am_loc n as) ((lg_sl vs ++ List.replicate (n - (lg_sl vs).length) Slot.unset).toArray) := by
  obtain ⟨g1, g2⟩ := am_ent_at h
  have hv := lv_entry vs (n := n) (by omega)
  refine ⟨hv.1, hv.2.1, fun i v hi => ?_⟩
  unfold am_loc at hi
  by_cases hl : i < (am_ent as).length
  · rw [List.getElem?_append_left hl] at hi
    obtain ⟨c, e1, e2⟩ := g2 i v hi
    exact ⟨c, by rw [List.getElem?_toArray, List.getElem?_append_left (by omega)]; exact e1, e2⟩
  · rw [List.getElem?_append_right (by omega)] at hi
    have h3 := List.mem_of_getElem? hi
    have := List.eq_of_mem_replicate h3
    cases this
theorem GW.moved {G : GX} {u U : State} (hvm : u.vm.Alike U.vm) (hx : XK u → XK U) (h : GW G u) : GW G U := by
  obtain ⟨h1, h2, h3, h4, h5, h6, h7, h8⟩ := h
  refine ⟨h1.moved hvm, fun a ha => ?_, h3.moved hvm, h4.moved hvm, h5.moved hvm, h6.moved hvm, h7.imp (fun z => z.moved hvm) (fun z => z.moved hvm), hx h8⟩
  rcases h2 a ha with z | ⟨cell, z1, z2, z3, z4, z5⟩
  · exact Or.inl z
  · refine Or.inr ⟨cell, z1, z2, z3, ?_, z5⟩
    rcases z4 with z | z
    · exact Or.inl ⟨z.1, State.isArrayOf_alike hvm z.2⟩
    · exact Or.inr ⟨z.1, State.isArrayOf_alike hvm z.2⟩
theorem sem_intro {M : MI} {as : List AV} {t : Tp} {h : Mem} {mc ms : Nat} {Q : Option AV → Tp → Mem → Prop} {ls : List (Option AV)} (hy : plainName M.1.cls = true) (ho : M.2.2.2.2.1 = M.1.cls) (hn : (am_ent as).length ≤ M.2.2.1) (hl : am_loc M.2.2.1 as = ls)
    (k : AW M mc ms Q 0 ls [] t h 0 0) : Sem M as t h mc ms Q := by
  intro l G
  refine Met.ofW (cc := M.2.1) (maxL := M.2.2.1) (ret := M.2.2.2.1) hy rfl ?_
  intro p e s m args below meth c s₁ B hml hv
  obtain ⟨hs, hR, hG⟩ := hv
  have hts := atoms_spec (ws := Cond.code M.1 M.2.1 M.2.2.1 M.2.2.2.1 :: WS) B.pre
  have hown : s.vm.findClass M.1.cls = some m.cls := findClass_of_methodNamed B.named
  have hin : meth.name = M.1.name := (name_of_methodNamed B.named B.method).1
  have e0 : args = args.toList.toArray := rfl
  rw [show entryFrame m args M.2.2.1 = _ from lg_entry_eq m args.toList M.2.2.1]
  exact k G p l e _ s m args below meth c s.heap [] _ [] ⟨B.exec, B.bytes, B.returns, hml, by rw [ho]; exact hown, fun w hw => hts w (List.mem_cons_of_mem _ hw), B.notSynchronized, Nat.le_refl _, Nat.le_refl _, Nat.le_refl _, Nat.le_refl _, hG, hin⟩ hR (hl ▸ LR.entry hs hn) trivial (fun q hq => by cases hq)
/-! calls -/
def am_w : List AV → Nat
  | [] => 0
  | .inl (true, _) :: vs => 2 + am_w vs
  | .inl (false, _) :: vs => 1 + am_w vs
  | .inr _ :: vs => 1 + am_w vs
theorem am_w_eq {G : GX} : ∀ {st : List AV} {r : List Value}, SR G st r → (r.map fun v => v.category).sum = am_w st
  | [], r, h => by cases SR.nil h; rfl
  | .inl (true, i) :: st, r, h => by
    obtain ⟨y, r, rfl, -, h2⟩ := SR.l h
    rw [List.map_cons, List.sum_cons, am_w_eq h2]
    rfl
  | .inl (false, i) :: st, r, h => by
    obtain ⟨y, r, rfl, -, h2⟩ := SR.i h
    rw [List.map_cons, List.sum_cons, am_w_eq h2]
    rfl
  | .inr none :: st, r, h => by
    obtain ⟨r, rfl, h2⟩ := SR.q h
    rw [List.map_cons, List.sum_cons, am_w_eq h2]
    rfl
  | .inr (some a) :: st, r, h => by
    obtain ⟨r, rfl, h2⟩ := SR.r h
    rw [List.map_cons, List.sum_cons, am_w_eq h2]
    rfl
theorem SR.split {G : GX} : ∀ {a b : List AV} {x : List Value}, SR G (a ++ b) x → ∃ y z, x = y ++ z ∧ SR G a y ∧ SR G b z
  | [], b, x, h => ⟨[], x, rfl, trivial, h⟩
  | v :: a, b, x, h => by
    obtain ⟨c, r, rfl, h3, h4⟩ := SR.cons h
    obtain ⟨y, z, rfl, h5, h6⟩ := SR.split h4
    exact ⟨c :: y, z, rfl, ⟨h3, h5⟩, h6⟩
theorem SR.rev {G : GX} : ∀ {a : List AV} {x : List Value}, SR G a x → SR G a.reverse x.reverse
  | [], x, h => by cases SR.nil h; exact trivial
  | v :: a, x, h => by
    obtain ⟨c, r, rfl, h3, h4⟩ := SR.cons h
    rw [List.reverse_cons, List.reverse_cons]
    exact SR.app (SR.rev h4) ⟨h3, trivial⟩
theorem PP.blind {G : GX} {as : List AV} {t : Tp} {h : Mem} : FrameBlind (PP G as t h) := fun _ U _ _ q => ⟨q.1, q.2.1, q.2.2.moved (U := U.calling _ _ _) (Vm.Alike.refl U.vm) (XK.same rfl)⟩
def am_plain (y : MethodName) (n : Nat) : Prop := y.cls ≠ "java/lang/invoke/MethodHandle" ∧ y.cls ≠ "java/lang/invoke/VarHandle" ∧ (parseMethodDescriptor y.desc).map (fun d => d.parameters.length) = some n
/-- a call by its pool number: on an object of kind ci -/
def VL (own : String) (idx : Nat) (M' : MI) (ci n : Nat) : Prop := Cond.methodLink own idx M'.1 ∈ WS ∧ Cond.instanceMethod M'.1 ∈ WS ∧ Cond.selects M'.1.cls M'.1 M'.1 ∈ WS ∧ Cond.initialized M'.1.cls ∈ WS ∧ Cond.code M'.1 M'.2.1 M'.2.2.1 M'.2.2.2.1 ∈ WS ∧ am_plain M'.1 n ∧ ci < 20 ∧ ∃ T N, vwCl[ci]? = some (M'.1.cls, T, N)
/-- a static one -/
def SL (own : String) (idx : Nat) (M' : MI) (n : Nat) : Prop := Cond.methodLink own idx M'.1 ∈ WS ∧ Cond.static M'.1 ∈ WS ∧ Cond.initialized M'.1.cls ∈ WS ∧ Cond.code M'.1 M'.2.1 M'.2.2.1 M'.2.2.2.1 ∈ WS ∧ am_plain M'.1 n
/-- a constructor or another by invokespecial -/
def IL (own : String) (idx : Nat) (M' : MI) (n : Nat) : Prop := Cond.methodLink own idx M'.1 ∈ WS ∧ Cond.instanceMethod M'.1 ∈ WS ∧ M'.1.name = "<init>" ∧ M'.2.2.2.1 = none ∧ Cond.initialized M'.1.cls ∈ WS ∧ Cond.code M'.1 M'.2.1 M'.2.2.1 M'.2.2.2.1 ∈ WS ∧ am_plain M'.1 n
theorem WS_good {M : MI} (h : Cond.code M.1 M.2.1 M.2.2.1 M.2.2.2.1 ∈ WS) : GoodIn WS (Cond.code M.1 M.2.1 M.2.2.1 M.2.2.2.1 :: WS) := by
  intro w hw
  have hw2 : w ∈ WS := by
    rcases List.mem_cons.mp hw with rfl | h2
    · exact h
    · exact h2
  exact ⟨hw2, good_of_word (List.mem_filter.mp hw2).2⟩
section AMC
variable {M M' : MI} {mc ms : Nat} {Q : Option AV → Tp → Mem → Prop} {pc : Nat} {ls ls' : List (Option AV)} {st : List AV} {t : Tp} {h : Mem} {ck sk mc' ms' : Nat} {Q' : Option AV → Tp → Mem → Prop}
theorem am_after {G : GX} {p : Program} {l : Launch} {e : Env} {R : Room} {s : State} {m : MethodId} {args a : Array Value} {below : List Frame} {meth : Method} {c : Code} {H : Heap} {locs : List Loc} {lsC : Array Slot} {st0 rest : List Value}
    (C : CX M G mc ms p R s m args meth c) (hL : LR G M.2.2.1 ls lsC) (hS : SR G st rest) (hq : ∀ q ∈ locs, G.1.size ≤ q.base)
    (hr : va_Run p l e R s m args below meth c H locs ck sk mc' ms' (F0 m pc lsC st0) rest (QQ G Q' a) (am_up1 G))
    (k : ∀ v t' h', Q' v t' h' → AW M mc ms Q (pc + 3) ls (v.toList ++ st) t' h' (ck + mc') (sk + ms')) :
    W p l e R s m args below meth c H locs ck sk (MQ below (QQ G Q) args s mc ms (am_up1 G)) (F0 m pc lsC st0) := by
  intro T hT X
  obtain ⟨v, st₀, t2, T', L, h0, X', hL2, e1, e2, ⟨va, tt, hh, vC, hQ, ho, hsr, hrp⟩, stp⟩ := hr T hT X
  cases ho
  obtain ⟨t3, a1, b1⟩ := k va tt hh hQ G p l e R s m args below meth c T'.heap (locs ++ L) lsC (v.toList ++ rest) C (by rw [e1]; exact hrp) hL (SR.app hsr hS) (fun q hq3 => by
    rcases List.mem_append.mp hq3 with h | h
    · exact hq q h
    · exact hL2 q h) T' rfl X'
  exact ⟨t3, stp t3 a1, b1⟩
theorem aw_callV {idx ci N n a : Nat} {as st0 : List AV} (hd : decode M.2.1 pc = .ok (.invokevirtual idx, 3)) (hl : VL M.2.2.2.2.1 idx M' ci n) (hS' : Sem M' (vR a :: as) t h mc' ms' Q') (hk : t.2.1 a = (ci, N)) (hst : as.reverse ++ vR a :: st = st0) (hn : as.length = n) (hw : am_w st ≤ 8)
    (hF : M'.2.2.2.2.2.1 + 1 ≤ M.2.2.2.2.2.1) (hLo : 8 + (M'.2.2.1 + 11) + M'.2.2.2.2.2.2 ≤ M.2.2.2.2.2.2) (hc : ck + mc' ≤ mc) (hs : sk + ms' ≤ ms)
    (k : ∀ v t' h', Q' v t' h' → AW M mc ms Q (pc + 3) ls (v.toList ++ st) t' h' (ck + mc') (sk + ms')) : AW M mc ms Q pc ls st0 t h ck sk := by
  intro G p l e R s m args below meth c H locs lsC stC C hR hL hS hq
  subst hst
  obtain ⟨ys, zs, rfl, g1, g2⟩ := SR.split hS
  obtain ⟨r, rfl, g3⟩ := SR.r g2
  obtain ⟨l1, l2, l3, l4, l5, l6, l7, T0, N0, l8⟩ := hl
  have hts := C.2.2.2.2.2.1
  have hG : GW G s := C.2.2.2.2.2.2.2.2.2.2.2.1
  have g4 : SR G as ys.reverse := by have := SR.rev g1; rwa [List.reverse_reverse] at this
  have ha := hR.lt hG.2.1 hk (by omega) (by omega) (by omega)
  obtain ⟨cell, q1, q2, q3, -⟩ := hR.2.2.2.1 a ha
  rw [hk] at q3
  obtain ⟨-, hfc, -⟩ := hG.1.1 ci _ l8
  obtain ⟨k1, k2, -, -, -, -, -, kf, kl, kc, ks, -⟩ := id C
  refine am_after (a := (Value.ref (rho G a) :: ys.reverse).toArray) (st0 := ys ++ .ref (rho G a) :: r) (rest := r) C hL g3 hq (va_runV (As := ys.reverse) (C := M'.1.cls) (n := n) ⟨C.1, C.2.1, C.2.2.2.1, C.2.2.2.2.1, hts⟩ (hS' l G) ⟨callB_of n hts (WS_good l5) rfl rfl rfl (hts _ l4) (hts _ l1) l6 ⟨Nat.le_trans hF kf, Nat.le_trans hLo kl⟩, hts _ l2, hts _ l3⟩ ⟨PP.blind, ⟨cell, by rw [hR.at ha]; exact q1, by rw [q2]; rfl, by rw [q3]; show _ = some (am_cls G ci); unfold am_cls; rw [if_pos l7]; exact hfc⟩, fun U hU hW => ⟨⟨rfl, g4⟩, by rw [hU]; exact hR, hG.moved hW.alike (XK.warm hW)⟩⟩ rfl (by rw [← hn, SR.len g4]) hL.1 (by rw [List.reverse_reverse]) (by rw [am_w_eq g3]; show 2 * 0 + _ ≤ 8; omega) hd ⟨Nat.le_trans hc kc, Nat.le_trans hs ks⟩) k
theorem aw_callS {idx n : Nat} {as st0 : List AV} (hd : decode M.2.1 pc = .ok (.invokestatic idx, 3)) (hl : SL M.2.2.2.2.1 idx M' n) (hS' : Sem M' as t h mc' ms' Q') (hst : as.reverse ++ st = st0) (hn : as.length = n) (hw : am_w st ≤ 8)
    (hF : M'.2.2.2.2.2.1 + 1 ≤ M.2.2.2.2.2.1) (hLo : 8 + (M'.2.2.1 + 11) + M'.2.2.2.2.2.2 ≤ M.2.2.2.2.2.2) (hc : ck + mc' ≤ mc) (hs : sk + ms' ≤ ms)
    (k : ∀ v t' h', Q' v t' h' → AW M mc ms Q (pc + 3) ls (v.toList ++ st) t' h' (ck + mc') (sk + ms')) : AW M mc ms Q pc ls st0 t h ck sk := by
  intro G p l e R s m args below meth c H locs lsC stC C hR hL hS hq
  subst hst
  obtain ⟨ys, zs, rfl, g1, g3⟩ := SR.split hS
  obtain ⟨l1, l2, l4, l5, l6⟩ := hl
  have hts := C.2.2.2.2.2.1
  have hG : GW G s := C.2.2.2.2.2.2.2.2.2.2.2.1
  have g4 : SR G as ys.reverse := by have := SR.rev g1; rwa [List.reverse_reverse] at this
  obtain ⟨k1, k2, -, -, -, -, -, kf, kl, kc, ks, -⟩ := id C
  refine am_after (a := ys.reverse.toArray) (st0 := ys ++ zs) (rest := zs) C hL g3 hq (va_runS (As := ys.reverse) (n := n) ⟨C.1, C.2.1, C.2.2.2.1, C.2.2.2.2.1, hts⟩ (hS' l G) ⟨callB_of n hts (WS_good l5) rfl rfl rfl (hts _ l4) (hts _ l1) l6 ⟨Nat.le_trans hF kf, Nat.le_trans hLo kl⟩, hts _ l2⟩ ⟨PP.blind, fun U hU hW => ⟨g4, by rw [hU]; exact hR, hG.moved hW.alike (XK.warm hW)⟩⟩ rfl (by rw [← hn, SR.len g4]) hL.1 (by rw [List.reverse_reverse]) (by rw [am_w_eq g3]; show 2 * 0 + _ ≤ 8; omega) hd ⟨Nat.le_trans hc kc, Nat.le_trans hs ks⟩) k
theorem aw_callI {idx n a : Nat} {as st0 : List AV} (hd : decode M.2.1 pc = .ok (.invokespecial idx, 3)) (hl : IL M.2.2.2.2.1 idx M' n) (hS' : Sem M' (vR a :: as) t h mc' ms' Q') (hst : as.reverse ++ vR a :: st = st0) (hn : as.length = n) (hw : am_w st ≤ 8)
    (hF : M'.2.2.2.2.2.1 + 1 ≤ M.2.2.2.2.2.1) (hLo : 8 + (M'.2.2.1 + 11) + M'.2.2.2.2.2.2 ≤ M.2.2.2.2.2.2) (hc : ck + mc' ≤ mc) (hs : sk + ms' ≤ ms)
    (k : ∀ v t' h', Q' v t' h' → AW M mc ms Q (pc + 3) ls (v.toList ++ st) t' h' (ck + mc') (sk + ms')) : AW M mc ms Q pc ls st0 t h ck sk := by
  intro G p l e R s m args below meth c H locs lsC stC C hR hL hS hq
  subst hst
  obtain ⟨ys, zs, rfl, g1, g2⟩ := SR.split hS
  obtain ⟨r, rfl, g3⟩ := SR.r g2
  obtain ⟨l1, l2, l3, l7, l4, l5, l6⟩ := hl
  have hts := C.2.2.2.2.2.1
  have hG : GW G s := C.2.2.2.2.2.2.2.2.2.2.2.1
  have g4 : SR G as ys.reverse := by have := SR.rev g1; rwa [List.reverse_reverse] at this
  obtain ⟨k1, k2, -, -, -, -, -, kf, kl, kc, ks, -⟩ := id C
  refine am_after (a := (Value.ref (rho G a) :: ys.reverse).toArray) (st0 := ys ++ .ref (rho G a) :: r) (rest := r) C hL g3 hq (va_runI (As := ys.reverse) (n := n) ⟨C.1, C.2.1, C.2.2.2.1, C.2.2.2.2.1, hts⟩ (hS' l G) ⟨by have := callB_of (R := R) (own := M.2.2.2.2.1) (index := idx) n hts (WS_good l5) rfl (rm := { frames := M'.2.2.2.2.2.1, cells := mc', slots := ms', locals := M'.2.2.2.2.2.2 }) rfl rfl (hts _ l4) (hts _ l1) l6 ⟨Nat.le_trans hF kf, Nat.le_trans hLo kl⟩; rw [l7] at this ⊢; exact this, l3, hts _ l2⟩ ⟨PP.blind, fun U hU hW => ⟨⟨rfl, g4⟩, by rw [hU]; exact hR, hG.moved hW.alike (XK.warm hW)⟩⟩ rfl (by rw [← hn, SR.len g4]) hL.1 (by rw [List.reverse_reverse]) (by rw [am_w_eq g3]; show 2 * 0 + _ ≤ 8; omega) hd ⟨Nat.le_trans hc kc, Nat.le_trans hs ks⟩) k
end AMC
