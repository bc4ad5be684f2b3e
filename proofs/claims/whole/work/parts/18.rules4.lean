/-- less known of the variables is enough -/
def am_sub : List (Option AV) → List (Option AV) → Prop
  | [], _ => True
  | x :: r, y :: r' => (match x with | none => True | some v => y = some v) ∧ am_sub r r'
  | _ :: _, [] => False
theorem am_sub_at : ∀ {a b : List (Option AV)}, am_sub a b → ∀ (i : Nat) (v : AV), a[i]? = some (some v) → b[i]? = some (some v)
  | [], _, _, i, v, h => by simp at h
  | x :: r, y :: r', hs, 0, v, h => by
    rw [List.getElem?_cons_zero] at h
    cases h
    rw [List.getElem?_cons_zero]
    exact congrArg some hs.1
  | x :: r, y :: r', hs, i + 1, v, h => by
    rw [List.getElem?_cons_succ] at h ⊢
    exact am_sub_at hs.2 i v h
  | _ :: _, [], hs, _, _, _ => hs.elim
theorem aw_less {M : MI} {mc ms : Nat} {Q : Option AV → Tp → Mem → Prop} {pc : Nat} {ls ls' : List (Option AV)} {st : List AV} {t : Tp} {h : Mem} {ck sk : Nat} (hs : am_sub ls' ls) (k : AW M mc ms Q pc ls' st t h ck sk) : AW M mc ms Q pc ls st t h ck sk := by
  intro G p l e R s m args below meth c H locs lsC stC C hR hL hS hq
  exact k G p l e R s m args below meth c H locs lsC stC C hR ⟨hL.1, hL.2.1, fun i v hi => hL.2.2 i v (am_sub_at hs i v hi)⟩ hS hq
theorem aw_alenR {M : MI} {mc ms : Nat} {Q : Option AV → Tp → Mem → Prop} {pc : Nat} {ls : List (Option AV)} {st : List AV} {t : Tp} {h : Mem} {ck sk a N kd : Nat} {n : Int} (hd : decode M.2.1 pc = .ok (.arraylength, 1)) (hk : t.2.1 a = (kd, N)) (hkd : kd = 23 ∨ kd = 24) (hN : (N : Int) = n) (hs : N < 2147483648) (k : AW M mc ms Q (pc + 1) ls (vI n :: st) t h ck sk) : AW M mc ms Q pc ls (vR a :: st) t h ck sk := by
  intro G p l e R s m args below meth c H locs lsC stC C hR hL hS hq
  obtain ⟨r, rfl, hS2⟩ := SR.r hS
  have hG : GW G s := C.2.2.2.2.2.2.2.2.2.2.2.1
  have ha2 := hR.lt hG.2.1 hk (by omega) (by omega) (by omega)
  obtain ⟨cell, q1, q2, q3, q4, q5⟩ := hR.2.2.2.1 a ha2
  rw [hk] at q3 q4 q5
  obtain ⟨f, hf⟩ := q4 (show 20 ≤ kd by omega)
  have hsz := arrV_of hf
  have hfin : cell.slots.size.toInt32.toInt = n := by
    rw [hsz, ← hN]
    exact toInt_of rfl hs
  rcases hkd with rfl | rfl
  · exact W.alen C.1 C.2.1 (cell := cell) (by rw [hR.at ha2]; exact q1) (by rw [hf]; exact (hG.1.2 3 _ rfl).1 _ _) rfl rfl rfl hd (k G p l e R s m args below meth c H locs lsC _ C hR hL ⟨⟨_, rfl, hfin⟩, hS2⟩ hq)
  · exact W.alen C.1 C.2.1 (cell := cell) (by rw [hR.at ha2]; exact q1) (by rw [hf]; exact (hG.1.2 4 _ rfl).1 _ _) rfl rfl rfl hd (k G p l e R s m args below meth c H locs lsC _ C hR hL ⟨⟨_, rfl, hfin⟩, hS2⟩ hq)
